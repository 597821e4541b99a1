set_option maxRecDepth 20000 in
theorem gX6_strength_X6_in : GoodIn wsX6_strength (va_wsS RX6 87 yX6_in wsX6_in) := goodIn_app (goodIn_of _ (by decide +kernel)) ggX6_strength_X6_in
theorem dX6_strength_0 : decode cX6_strength 0 = .ok (.iload_n 0, 1) := by decide +kernel
theorem dX6_strength_1 : decode cX6_strength 1 = .ok (.iconst 0, 1) := by decide +kernel
theorem dX6_strength_2 : decode cX6_strength 2 = .ok (.bipush 79, 2) := by decide +kernel
theorem dX6_strength_4 : decode cX6_strength 4 = .ok (.invokestatic 87, 3) := by decide +kernel
theorem dX6_strength_7 : decode cX6_strength 7 = .ok (.ifCond .eq 10, 3) := by decide +kernel
theorem dX6_strength_10 : decode cX6_strength 10 = .ok (.iload_n 0, 1) := by decide +kernel
theorem dX6_strength_11 : decode cX6_strength 11 = .ok (.bipush 10, 2) := by decide +kernel
theorem dX6_strength_13 : decode cX6_strength 13 = .ok (.irem, 1) := by decide +kernel
theorem dX6_strength_14 : decode cX6_strength 14 = .ok (.goto 4, 3) := by decide +kernel
theorem dX6_strength_17 : decode cX6_strength 17 = .ok (.iconst 0, 1) := by decide +kernel
theorem dX6_strength_18 : decode cX6_strength 18 = .ok (.ireturn, 1) := by decide +kernel
set_option maxRecDepth 20000 in
theorem ggX6_mean_X6_looked : GoodIn wsX6_mean wsX6_looked := goodIn_r _ [6, 7, 8, 9, 5, 10, 11, 12, 13, 14, 15, 16, 17, 18, 19, 23, 24, 25, 26, 27, 28, 29, 30, 31, 32, 33, 34, 35, 36, 37, 38, 39, 40, 41, 42, 43, 44, 45, 46, 47, 48, 49, 50, 51, 52, 53] (by decide +kernel) (by decide +kernel)
set_option maxRecDepth 20000 in
theorem gX6_mean_X6_looked : GoodIn wsX6_mean (wsV RX6 102 RX6 yX6_looked wsX6_looked) := goodIn_app (goodIn_of _ (by decide +kernel)) ggX6_mean_X6_looked
set_option maxRecDepth 20000 in
theorem ggX6_mean_X6_strength : GoodIn wsX6_mean wsX6_strength := goodIn_r _ [22, 11, 12, 5, 13] (by decide +kernel) (by decide +kernel)
set_option maxRecDepth 20000 in
theorem gX6_mean_X6_strength : GoodIn wsX6_mean (va_wsS RX6 107 yX6_strength wsX6_strength) := goodIn_app (goodIn_of _ (by decide +kernel)) ggX6_mean_X6_strength
theorem dX6_mean_0 : decode cX6_mean 0 = .ok (.aload_n 0, 1) := by decide +kernel
theorem dX6_mean_1 : decode cX6_mean 1 = .ok (.iload_n 1, 1) := by decide +kernel
theorem dX6_mean_2 : decode cX6_mean 2 = .ok (.invokevirtual 102, 3) := by decide +kernel
theorem dX6_mean_5 : decode cX6_mean 5 = .ok (.istore_n 2, 1) := by decide +kernel
theorem dX6_mean_6 : decode cX6_mean 6 = .ok (.iload_n 2, 1) := by decide +kernel
theorem dX6_mean_7 : decode cX6_mean 7 = .ok (.ifCond .ge 5, 3) := by decide +kernel
theorem dX6_mean_10 : decode cX6_mean 10 = .ok (.iload_n 2, 1) := by decide +kernel
theorem dX6_mean_11 : decode cX6_mean 11 = .ok (.ireturn, 1) := by decide +kernel
theorem dX6_mean_12 : decode cX6_mean 12 = .ok (.iconst 0, 1) := by decide +kernel
theorem dX6_mean_13 : decode cX6_mean 13 = .ok (.istore_n 3, 1) := by decide +kernel
theorem dX6_mean_14 : decode cX6_mean 14 = .ok (.iconst 0, 1) := by decide +kernel
theorem dX6_mean_15 : decode cX6_mean 15 = .ok (.istore 4, 2) := by decide +kernel
theorem dX6_mean_17 : decode cX6_mean 17 = .ok (.iload 4, 2) := by decide +kernel
theorem dX6_mean_19 : decode cX6_mean 19 = .ok (.sipush 160, 3) := by decide +kernel
theorem dX6_mean_22 : decode cX6_mean 22 = .ok (.if_icmp .ge 28, 3) := by decide +kernel
theorem dX6_mean_25 : decode cX6_mean 25 = .ok (.iload_n 3, 1) := by decide +kernel
theorem dX6_mean_26 : decode cX6_mean 26 = .ok (.aload_n 0, 1) := by decide +kernel
theorem dX6_mean_27 : decode cX6_mean 27 = .ok (.getfield 20, 3) := by decide +kernel
theorem dX6_mean_30 : decode cX6_mean 30 = .ok (.sipush 160, 3) := by decide +kernel
theorem dX6_mean_33 : decode cX6_mean 33 = .ok (.iload_n 1, 1) := by decide +kernel
theorem dX6_mean_34 : decode cX6_mean 34 = .ok (.imul, 1) := by decide +kernel
theorem dX6_mean_35 : decode cX6_mean 35 = .ok (.iload 4, 2) := by decide +kernel
theorem dX6_mean_37 : decode cX6_mean 37 = .ok (.iadd, 1) := by decide +kernel
theorem dX6_mean_38 : decode cX6_mean 38 = .ok (.iaload, 1) := by decide +kernel
theorem dX6_mean_39 : decode cX6_mean 39 = .ok (.invokestatic 107, 3) := by decide +kernel
theorem dX6_mean_42 : decode cX6_mean 42 = .ok (.iadd, 1) := by decide +kernel
theorem dX6_mean_43 : decode cX6_mean 43 = .ok (.istore_n 3, 1) := by decide +kernel
theorem dX6_mean_44 : decode cX6_mean 44 = .ok (.iinc 4 1, 3) := by decide +kernel
theorem dX6_mean_47 : decode cX6_mean 47 = .ok (.goto (-30), 3) := by decide +kernel
theorem dX6_mean_50 : decode cX6_mean 50 = .ok (.iload_n 3, 1) := by decide +kernel
theorem dX6_mean_51 : decode cX6_mean 51 = .ok (.sipush 160, 3) := by decide +kernel
theorem dX6_mean_54 : decode cX6_mean 54 = .ok (.idiv, 1) := by decide +kernel
theorem dX6_mean_55 : decode cX6_mean 55 = .ok (.ireturn, 1) := by decide +kernel
set_option maxRecDepth 20000 in
theorem ggX6_windAt_X6_in : GoodIn wsX6_windAt wsX6_in := goodIn_r _ [6] (by decide +kernel) (by decide +kernel)
set_option maxRecDepth 20000 in
theorem gX6_windAt_X6_in : GoodIn wsX6_windAt (va_wsS RX6 87 yX6_in wsX6_in) := goodIn_app (goodIn_of _ (by decide +kernel)) ggX6_windAt_X6_in
theorem dX6_windAt_0 : decode cX6_windAt 0 = .ok (.iload_n 2, 1) := by decide +kernel
theorem dX6_windAt_1 : decode cX6_windAt 1 = .ok (.sipush 720, 3) := by decide +kernel
theorem dX6_windAt_4 : decode cX6_windAt 4 = .ok (.idiv, 1) := by decide +kernel
theorem dX6_windAt_5 : decode cX6_windAt 5 = .ok (.bipush 12, 2) := by decide +kernel
theorem dX6_windAt_7 : decode cX6_windAt 7 = .ok (.irem, 1) := by decide +kernel
theorem dX6_windAt_8 : decode cX6_windAt 8 = .ok (.istore_n 3, 1) := by decide +kernel
theorem dX6_windAt_9 : decode cX6_windAt 9 = .ok (.aload_n 0, 1) := by decide +kernel
theorem dX6_windAt_10 : decode cX6_windAt 10 = .ok (.getfield 17, 3) := by decide +kernel
theorem dX6_windAt_13 : decode cX6_windAt 13 = .ok (.iload_n 3, 1) := by decide +kernel
theorem dX6_windAt_14 : decode cX6_windAt 14 = .ok (.baload, 1) := by decide +kernel
theorem dX6_windAt_15 : decode cX6_windAt 15 = .ok (.ifCond .eq 18, 3) := by decide +kernel
theorem dX6_windAt_18 : decode cX6_windAt 18 = .ok (.aload_n 0, 1) := by decide +kernel
theorem dX6_windAt_19 : decode cX6_windAt 19 = .ok (.getfield 20, 3) := by decide +kernel
theorem dX6_windAt_22 : decode cX6_windAt 22 = .ok (.sipush 160, 3) := by decide +kernel
theorem dX6_windAt_25 : decode cX6_windAt 25 = .ok (.iload_n 3, 1) := by decide +kernel
theorem dX6_windAt_26 : decode cX6_windAt 26 = .ok (.imul, 1) := by decide +kernel
theorem dX6_windAt_27 : decode cX6_windAt 27 = .ok (.iload_n 1, 1) := by decide +kernel
theorem dX6_windAt_28 : decode cX6_windAt 28 = .ok (.iadd, 1) := by decide +kernel
theorem dX6_windAt_29 : decode cX6_windAt 29 = .ok (.iaload, 1) := by decide +kernel
theorem dX6_windAt_30 : decode cX6_windAt 30 = .ok (.goto 4, 3) := by decide +kernel
theorem dX6_windAt_33 : decode cX6_windAt 33 = .ok (.iconst 0, 1) := by decide +kernel
theorem dX6_windAt_34 : decode cX6_windAt 34 = .ok (.istore 4, 2) := by decide +kernel
theorem dX6_windAt_36 : decode cX6_windAt 36 = .ok (.iload 4, 2) := by decide +kernel
theorem dX6_windAt_38 : decode cX6_windAt 38 = .ok (.iconst 0, 1) := by decide +kernel
theorem dX6_windAt_39 : decode cX6_windAt 39 = .ok (.bipush 79, 2) := by decide +kernel
theorem dX6_windAt_41 : decode cX6_windAt 41 = .ok (.invokestatic 87, 3) := by decide +kernel
theorem dX6_windAt_44 : decode cX6_windAt 44 = .ok (.ifCond .eq 8, 3) := by decide +kernel
theorem dX6_windAt_47 : decode cX6_windAt 47 = .ok (.iload 4, 2) := by decide +kernel
theorem dX6_windAt_49 : decode cX6_windAt 49 = .ok (.goto 4, 3) := by decide +kernel
theorem dX6_windAt_52 : decode cX6_windAt 52 = .ok (.iconst 0, 1) := by decide +kernel
theorem dX6_windAt_53 : decode cX6_windAt 53 = .ok (.ireturn, 1) := by decide +kernel
set_option maxRecDepth 20000 in
theorem ggX6_nextCell_X6_in : GoodIn wsX6_nextCell wsX6_in := goodIn_r _ [5] (by decide +kernel) (by decide +kernel)
set_option maxRecDepth 20000 in
theorem gX6_nextCell_X6_in : GoodIn wsX6_nextCell (va_wsS RX6 87 yX6_in wsX6_in) := goodIn_app (goodIn_of _ (by decide +kernel)) ggX6_nextCell_X6_in
theorem dX6_nextCell_0 : decode cX6_nextCell 0 = .ok (.iload_n 1, 1) := by decide +kernel
theorem dX6_nextCell_1 : decode cX6_nextCell 1 = .ok (.bipush 16, 2) := by decide +kernel
theorem dX6_nextCell_3 : decode cX6_nextCell 3 = .ok (.irem, 1) := by decide +kernel
theorem dX6_nextCell_4 : decode cX6_nextCell 4 = .ok (.iload_n 2, 1) := by decide +kernel
theorem dX6_nextCell_5 : decode cX6_nextCell 5 = .ok (.iconst 1, 1) := by decide +kernel
theorem dX6_nextCell_6 : decode cX6_nextCell 6 = .ok (.iconst 3, 1) := by decide +kernel
theorem dX6_nextCell_7 : decode cX6_nextCell 7 = .ok (.invokestatic 87, 3) := by decide +kernel
theorem dX6_nextCell_10 : decode cX6_nextCell 10 = .ok (.ifCond .eq 7, 3) := by decide +kernel
theorem dX6_nextCell_13 : decode cX6_nextCell 13 = .ok (.iconst 1, 1) := by decide +kernel
theorem dX6_nextCell_14 : decode cX6_nextCell 14 = .ok (.goto 18, 3) := by decide +kernel
theorem dX6_nextCell_17 : decode cX6_nextCell 17 = .ok (.iload_n 2, 1) := by decide +kernel
theorem dX6_nextCell_18 : decode cX6_nextCell 18 = .ok (.iconst 5, 1) := by decide +kernel
theorem dX6_nextCell_19 : decode cX6_nextCell 19 = .ok (.bipush 7, 2) := by decide +kernel
theorem dX6_nextCell_21 : decode cX6_nextCell 21 = .ok (.invokestatic 87, 3) := by decide +kernel
theorem dX6_nextCell_24 : decode cX6_nextCell 24 = .ok (.ifCond .eq 7, 3) := by decide +kernel
theorem dX6_nextCell_27 : decode cX6_nextCell 27 = .ok (.iconst (-1), 1) := by decide +kernel
theorem dX6_nextCell_28 : decode cX6_nextCell 28 = .ok (.goto 4, 3) := by decide +kernel
theorem dX6_nextCell_31 : decode cX6_nextCell 31 = .ok (.iconst 0, 1) := by decide +kernel
theorem dX6_nextCell_32 : decode cX6_nextCell 32 = .ok (.iadd, 1) := by decide +kernel
theorem dX6_nextCell_33 : decode cX6_nextCell 33 = .ok (.istore_n 3, 1) := by decide +kernel
theorem dX6_nextCell_34 : decode cX6_nextCell 34 = .ok (.iload_n 1, 1) := by decide +kernel
theorem dX6_nextCell_35 : decode cX6_nextCell 35 = .ok (.bipush 16, 2) := by decide +kernel
theorem dX6_nextCell_37 : decode cX6_nextCell 37 = .ok (.idiv, 1) := by decide +kernel
theorem dX6_nextCell_38 : decode cX6_nextCell 38 = .ok (.iload_n 2, 1) := by decide +kernel
theorem dX6_nextCell_39 : decode cX6_nextCell 39 = .ok (.iconst 3, 1) := by decide +kernel
theorem dX6_nextCell_40 : decode cX6_nextCell 40 = .ok (.iconst 5, 1) := by decide +kernel
theorem dX6_nextCell_41 : decode cX6_nextCell 41 = .ok (.invokestatic 87, 3) := by decide +kernel
theorem dX6_nextCell_44 : decode cX6_nextCell 44 = .ok (.ifCond .eq 7, 3) := by decide +kernel
theorem dX6_nextCell_47 : decode cX6_nextCell 47 = .ok (.iconst 1, 1) := by decide +kernel
theorem dX6_nextCell_48 : decode cX6_nextCell 48 = .ok (.goto 23, 3) := by decide +kernel
theorem dX6_nextCell_51 : decode cX6_nextCell 51 = .ok (.iload_n 2, 1) := by decide +kernel
theorem dX6_nextCell_52 : decode cX6_nextCell 52 = .ok (.ifCond .eq 14, 3) := by decide +kernel
theorem dX6_nextCell_55 : decode cX6_nextCell 55 = .ok (.iload_n 2, 1) := by decide +kernel
theorem dX6_nextCell_56 : decode cX6_nextCell 56 = .ok (.iconst 1, 1) := by decide +kernel
theorem dX6_nextCell_57 : decode cX6_nextCell 57 = .ok (.if_icmp .eq 9, 3) := by decide +kernel
theorem dX6_nextCell_60 : decode cX6_nextCell 60 = .ok (.iload_n 2, 1) := by decide +kernel
theorem dX6_nextCell_61 : decode cX6_nextCell 61 = .ok (.bipush 7, 2) := by decide +kernel
theorem dX6_nextCell_63 : decode cX6_nextCell 63 = .ok (.if_icmp .ne 7, 3) := by decide +kernel
theorem dX6_nextCell_66 : decode cX6_nextCell 66 = .ok (.iconst (-1), 1) := by decide +kernel
theorem dX6_nextCell_67 : decode cX6_nextCell 67 = .ok (.goto 4, 3) := by decide +kernel
theorem dX6_nextCell_70 : decode cX6_nextCell 70 = .ok (.iconst 0, 1) := by decide +kernel
theorem dX6_nextCell_71 : decode cX6_nextCell 71 = .ok (.iadd, 1) := by decide +kernel
theorem dX6_nextCell_72 : decode cX6_nextCell 72 = .ok (.istore 4, 2) := by decide +kernel
theorem dX6_nextCell_74 : decode cX6_nextCell 74 = .ok (.iload_n 3, 1) := by decide +kernel
theorem dX6_nextCell_75 : decode cX6_nextCell 75 = .ok (.iconst 0, 1) := by decide +kernel
theorem dX6_nextCell_76 : decode cX6_nextCell 76 = .ok (.bipush 15, 2) := by decide +kernel
theorem dX6_nextCell_78 : decode cX6_nextCell 78 = .ok (.invokestatic 87, 3) := by decide +kernel
theorem dX6_nextCell_81 : decode cX6_nextCell 81 = .ok (.ifCond .eq 29, 3) := by decide +kernel
theorem dX6_nextCell_84 : decode cX6_nextCell 84 = .ok (.iload 4, 2) := by decide +kernel
theorem dX6_nextCell_86 : decode cX6_nextCell 86 = .ok (.iconst 0, 1) := by decide +kernel
theorem dX6_nextCell_87 : decode cX6_nextCell 87 = .ok (.bipush 9, 2) := by decide +kernel
theorem dX6_nextCell_89 : decode cX6_nextCell 89 = .ok (.invokestatic 87, 3) := by decide +kernel
theorem dX6_nextCell_92 : decode cX6_nextCell 92 = .ok (.ifCond .eq 18, 3) := by decide +kernel
theorem dX6_nextCell_95 : decode cX6_nextCell 95 = .ok (.aload_n 0, 1) := by decide +kernel
theorem dX6_nextCell_96 : decode cX6_nextCell 96 = .ok (.getfield 13, 3) := by decide +kernel
theorem dX6_nextCell_99 : decode cX6_nextCell 99 = .ok (.bipush 16, 2) := by decide +kernel
theorem dX6_nextCell_101 : decode cX6_nextCell 101 = .ok (.iload 4, 2) := by decide +kernel
theorem dX6_nextCell_103 : decode cX6_nextCell 103 = .ok (.imul, 1) := by decide +kernel
theorem dX6_nextCell_104 : decode cX6_nextCell 104 = .ok (.iload_n 3, 1) := by decide +kernel
theorem dX6_nextCell_105 : decode cX6_nextCell 105 = .ok (.iadd, 1) := by decide +kernel
theorem dX6_nextCell_106 : decode cX6_nextCell 106 = .ok (.baload, 1) := by decide +kernel
theorem dX6_nextCell_107 : decode cX6_nextCell 107 = .ok (.ifCond .eq 8, 3) := by decide +kernel
theorem dX6_nextCell_110 : decode cX6_nextCell 110 = .ok (.bipush (-9), 2) := by decide +kernel
theorem dX6_nextCell_112 : decode cX6_nextCell 112 = .ok (.goto 10, 3) := by decide +kernel
theorem dX6_nextCell_115 : decode cX6_nextCell 115 = .ok (.bipush 16, 2) := by decide +kernel
theorem dX6_nextCell_117 : decode cX6_nextCell 117 = .ok (.iload 4, 2) := by decide +kernel
theorem dX6_nextCell_119 : decode cX6_nextCell 119 = .ok (.imul, 1) := by decide +kernel
theorem dX6_nextCell_120 : decode cX6_nextCell 120 = .ok (.iload_n 3, 1) := by decide +kernel
theorem dX6_nextCell_121 : decode cX6_nextCell 121 = .ok (.iadd, 1) := by decide +kernel
theorem dX6_nextCell_122 : decode cX6_nextCell 122 = .ok (.ireturn, 1) := by decide +kernel
theorem dX6_need_0 : decode cX6_need 0 = .ok (.iload_n 0, 1) := by decide +kernel
theorem dX6_need_1 : decode cX6_need 1 = .ok (.iconst 2, 1) := by decide +kernel
theorem dX6_need_2 : decode cX6_need 2 = .ok (.irem, 1) := by decide +kernel
theorem dX6_need_3 : decode cX6_need 3 = .ok (.ifCond .ne 8, 3) := by decide +kernel
theorem dX6_need_6 : decode cX6_need 6 = .ok (.bipush 60, 2) := by decide +kernel
theorem dX6_need_8 : decode cX6_need 8 = .ok (.goto 5, 3) := by decide +kernel
theorem dX6_need_11 : decode cX6_need 11 = .ok (.bipush 85, 2) := by decide +kernel
theorem dX6_need_13 : decode cX6_need 13 = .ok (.ireturn, 1) := by decide +kernel
set_option maxRecDepth 20000 in
theorem ggX6_isShip_X6_in : GoodIn wsX6_isShip wsX6_in := goodIn_r _ [5] (by decide +kernel) (by decide +kernel)
set_option maxRecDepth 20000 in
theorem gX6_isShip_X6_in : GoodIn wsX6_isShip (va_wsS RX6 87 yX6_in wsX6_in) := goodIn_app (goodIn_of _ (by decide +kernel)) ggX6_isShip_X6_in
theorem dX6_isShip_0 : decode cX6_isShip 0 = .ok (.iload_n 1, 1) := by decide +kernel
theorem dX6_isShip_1 : decode cX6_isShip 1 = .ok (.iconst 0, 1) := by decide +kernel
theorem dX6_isShip_2 : decode cX6_isShip 2 = .ok (.aload_n 0, 1) := by decide +kernel
theorem dX6_isShip_3 : decode cX6_isShip 3 = .ok (.getfield 110, 3) := by decide +kernel
theorem dX6_isShip_6 : decode cX6_isShip 6 = .ok (.iconst 1, 1) := by decide +kernel
theorem dX6_isShip_7 : decode cX6_isShip 7 = .ok (.isub, 1) := by decide +kernel
theorem dX6_isShip_8 : decode cX6_isShip 8 = .ok (.invokestatic 87, 3) := by decide +kernel
theorem dX6_isShip_11 : decode cX6_isShip 11 = .ok (.ireturn, 1) := by decide +kernel
set_option maxRecDepth 20000 in
theorem ggX6_ship_X6_in : GoodIn wsX6_ship wsX6_in := goodIn_r _ [11] (by decide +kernel) (by decide +kernel)
set_option maxRecDepth 20000 in
theorem gX6_ship_X6_in : GoodIn wsX6_ship (va_wsS RX6 87 yX6_in wsX6_in) := goodIn_app (goodIn_of _ (by decide +kernel)) ggX6_ship_X6_in
set_option maxRecDepth 20000 in
theorem ggX6_ship_X6_isCell : GoodIn wsX6_ship wsX6_isCell := goodIn_r _ [14, 8, 9, 10, 11] (by decide +kernel) (by decide +kernel)
set_option maxRecDepth 20000 in
theorem gX6_ship_X6_isCell : GoodIn wsX6_ship (va_wsS RX6 91 yX6_isCell wsX6_isCell) := goodIn_app (goodIn_of _ (by decide +kernel)) ggX6_ship_X6_isCell
theorem dX6_ship_0 : decode cX6_ship 0 = .ok (.iload_n 1, 1) := by decide +kernel
theorem dX6_ship_1 : decode cX6_ship 1 = .ok (.iconst 0, 1) := by decide +kernel
theorem dX6_ship_2 : decode cX6_ship 2 = .ok (.iconst 3, 1) := by decide +kernel
theorem dX6_ship_3 : decode cX6_ship 3 = .ok (.invokestatic 87, 3) := by decide +kernel
theorem dX6_ship_6 : decode cX6_ship 6 = .ok (.ifCond .eq 30, 3) := by decide +kernel
theorem dX6_ship_9 : decode cX6_ship 9 = .ok (.iload_n 2, 1) := by decide +kernel
theorem dX6_ship_10 : decode cX6_ship 10 = .ok (.invokestatic 91, 3) := by decide +kernel
theorem dX6_ship_13 : decode cX6_ship 13 = .ok (.ifCond .eq 23, 3) := by decide +kernel
theorem dX6_ship_16 : decode cX6_ship 16 = .ok (.aload_n 0, 1) := by decide +kernel
theorem dX6_ship_17 : decode cX6_ship 17 = .ok (.getfield 13, 3) := by decide +kernel
theorem dX6_ship_20 : decode cX6_ship 20 = .ok (.iload_n 2, 1) := by decide +kernel
theorem dX6_ship_21 : decode cX6_ship 21 = .ok (.baload, 1) := by decide +kernel
theorem dX6_ship_22 : decode cX6_ship 22 = .ok (.ifCond .ne 14, 3) := by decide +kernel
theorem dX6_ship_25 : decode cX6_ship 25 = .ok (.iload_n 3, 1) := by decide +kernel
theorem dX6_ship_26 : decode cX6_ship 26 = .ok (.iconst 0, 1) := by decide +kernel
theorem dX6_ship_27 : decode cX6_ship 27 = .ok (.sipush 20000, 3) := by decide +kernel
theorem dX6_ship_30 : decode cX6_ship 30 = .ok (.invokestatic 87, 3) := by decide +kernel
theorem dX6_ship_33 : decode cX6_ship 33 = .ok (.ifCond .ne 5, 3) := by decide +kernel
theorem dX6_ship_36 : decode cX6_ship 36 = .ok (.iconst (-1), 1) := by decide +kernel
theorem dX6_ship_37 : decode cX6_ship 37 = .ok (.ireturn, 1) := by decide +kernel
theorem dX6_ship_38 : decode cX6_ship 38 = .ok (.aload_n 0, 1) := by decide +kernel
theorem dX6_ship_39 : decode cX6_ship 39 = .ok (.getfield 110, 3) := by decide +kernel
theorem dX6_ship_42 : decode cX6_ship 42 = .ok (.bipush 8, 2) := by decide +kernel
theorem dX6_ship_44 : decode cX6_ship 44 = .ok (.if_icmp .ne 6, 3) := by decide +kernel
theorem dX6_ship_47 : decode cX6_ship 47 = .ok (.bipush (-2), 2) := by decide +kernel
theorem dX6_ship_49 : decode cX6_ship 49 = .ok (.ireturn, 1) := by decide +kernel
theorem dX6_ship_50 : decode cX6_ship 50 = .ok (.aload_n 0, 1) := by decide +kernel
theorem dX6_ship_51 : decode cX6_ship 51 = .ok (.getfield 113, 3) := by decide +kernel
theorem dX6_ship_54 : decode cX6_ship 54 = .ok (.ifCond .eq 6, 3) := by decide +kernel
theorem dX6_ship_57 : decode cX6_ship 57 = .ok (.bipush (-4), 2) := by decide +kernel
theorem dX6_ship_59 : decode cX6_ship 59 = .ok (.ireturn, 1) := by decide +kernel
theorem dX6_ship_60 : decode cX6_ship 60 = .ok (.aload_n 0, 1) := by decide +kernel
theorem dX6_ship_61 : decode cX6_ship 61 = .ok (.getfield 26, 3) := by decide +kernel
theorem dX6_ship_64 : decode cX6_ship 64 = .ok (.aload_n 0, 1) := by decide +kernel
theorem dX6_ship_65 : decode cX6_ship 65 = .ok (.getfield 110, 3) := by decide +kernel
theorem dX6_ship_68 : decode cX6_ship 68 = .ok (.iload_n 1, 1) := by decide +kernel
theorem dX6_ship_69 : decode cX6_ship 69 = .ok (.iastore, 1) := by decide +kernel
theorem dX6_ship_70 : decode cX6_ship 70 = .ok (.aload_n 0, 1) := by decide +kernel
theorem dX6_ship_71 : decode cX6_ship 71 = .ok (.getfield 29, 3) := by decide +kernel
theorem dX6_ship_74 : decode cX6_ship 74 = .ok (.aload_n 0, 1) := by decide +kernel
theorem dX6_ship_75 : decode cX6_ship 75 = .ok (.getfield 110, 3) := by decide +kernel
theorem dX6_ship_78 : decode cX6_ship 78 = .ok (.iload_n 2, 1) := by decide +kernel
theorem dX6_ship_79 : decode cX6_ship 79 = .ok (.iastore, 1) := by decide +kernel
theorem dX6_ship_80 : decode cX6_ship 80 = .ok (.aload_n 0, 1) := by decide +kernel
theorem dX6_ship_81 : decode cX6_ship 81 = .ok (.getfield 41, 3) := by decide +kernel
theorem dX6_ship_84 : decode cX6_ship 84 = .ok (.aload_n 0, 1) := by decide +kernel
theorem dX6_ship_85 : decode cX6_ship 85 = .ok (.getfield 110, 3) := by decide +kernel
theorem dX6_ship_88 : decode cX6_ship 88 = .ok (.iload_n 3, 1) := by decide +kernel
theorem dX6_ship_89 : decode cX6_ship 89 = .ok (.iastore, 1) := by decide +kernel
theorem dX6_ship_90 : decode cX6_ship 90 = .ok (.aload_n 0, 1) := by decide +kernel
theorem dX6_ship_91 : decode cX6_ship 91 = .ok (.getfield 38, 3) := by decide +kernel
theorem dX6_ship_94 : decode cX6_ship 94 = .ok (.aload_n 0, 1) := by decide +kernel
theorem dX6_ship_95 : decode cX6_ship 95 = .ok (.getfield 110, 3) := by decide +kernel
theorem dX6_ship_98 : decode cX6_ship 98 = .ok (.bipush (-9), 2) := by decide +kernel
theorem dX6_ship_100 : decode cX6_ship 100 = .ok (.iastore, 1) := by decide +kernel
theorem dX6_ship_101 : decode cX6_ship 101 = .ok (.aload_n 0, 1) := by decide +kernel
theorem dX6_ship_102 : decode cX6_ship 102 = .ok (.dup, 1) := by decide +kernel
theorem dX6_ship_103 : decode cX6_ship 103 = .ok (.getfield 110, 3) := by decide +kernel
theorem dX6_ship_106 : decode cX6_ship 106 = .ok (.iconst 1, 1) := by decide +kernel
theorem dX6_ship_107 : decode cX6_ship 107 = .ok (.iadd, 1) := by decide +kernel
theorem dX6_ship_108 : decode cX6_ship 108 = .ok (.putfield 110, 3) := by decide +kernel
theorem dX6_ship_111 : decode cX6_ship 111 = .ok (.aload_n 0, 1) := by decide +kernel
theorem dX6_ship_112 : decode cX6_ship 112 = .ok (.getfield 110, 3) := by decide +kernel
theorem dX6_ship_115 : decode cX6_ship 115 = .ok (.iconst 1, 1) := by decide +kernel
theorem dX6_ship_116 : decode cX6_ship 116 = .ok (.isub, 1) := by decide +kernel
theorem dX6_ship_117 : decode cX6_ship 117 = .ok (.ireturn, 1) := by decide +kernel
set_option maxRecDepth 20000 in
theorem ggX6_foul_X6_isShip : GoodIn wsX6_foul wsX6_isShip := goodIn_r _ [6, 7, 8, 9, 5, 10, 11, 12, 13, 14, 15, 16, 17, 18, 19, 20, 21, 22, 23, 24, 25, 26, 27, 28, 29, 30, 31, 32, 33, 34, 35, 36, 37, 38, 39, 40, 41] (by decide +kernel) (by decide +kernel)
set_option maxRecDepth 20000 in
theorem gX6_foul_X6_isShip : GoodIn wsX6_foul (wsV RX6 116 RX6 yX6_isShip wsX6_isShip) := goodIn_app (goodIn_of _ (by decide +kernel)) ggX6_foul_X6_isShip
set_option maxRecDepth 20000 in
theorem ggX6_foul_X6_in : GoodIn wsX6_foul wsX6_in := goodIn_r _ [10] (by decide +kernel) (by decide +kernel)
set_option maxRecDepth 20000 in
theorem gX6_foul_X6_in : GoodIn wsX6_foul (va_wsS RX6 87 yX6_in wsX6_in) := goodIn_app (goodIn_of _ (by decide +kernel)) ggX6_foul_X6_in
theorem dX6_foul_0 : decode cX6_foul 0 = .ok (.aload_n 0, 1) := by decide +kernel
theorem dX6_foul_1 : decode cX6_foul 1 = .ok (.iload_n 1, 1) := by decide +kernel
theorem dX6_foul_2 : decode cX6_foul 2 = .ok (.invokevirtual 116, 3) := by decide +kernel
theorem dX6_foul_5 : decode cX6_foul 5 = .ok (.ifCond .eq 13, 3) := by decide +kernel
theorem dX6_foul_8 : decode cX6_foul 8 = .ok (.iload_n 2, 1) := by decide +kernel
theorem dX6_foul_9 : decode cX6_foul 9 = .ok (.iconst 0, 1) := by decide +kernel
theorem dX6_foul_10 : decode cX6_foul 10 = .ok (.bipush 9, 2) := by decide +kernel
theorem dX6_foul_12 : decode cX6_foul 12 = .ok (.invokestatic 87, 3) := by decide +kernel
theorem dX6_foul_15 : decode cX6_foul 15 = .ok (.ifCond .ne 5, 3) := by decide +kernel
theorem dX6_foul_18 : decode cX6_foul 18 = .ok (.iconst (-1), 1) := by decide +kernel
theorem dX6_foul_19 : decode cX6_foul 19 = .ok (.ireturn, 1) := by decide +kernel
theorem dX6_foul_20 : decode cX6_foul 20 = .ok (.aload_n 0, 1) := by decide +kernel
theorem dX6_foul_21 : decode cX6_foul 21 = .ok (.getfield 44, 3) := by decide +kernel
theorem dX6_foul_24 : decode cX6_foul 24 = .ok (.iload_n 1, 1) := by decide +kernel
theorem dX6_foul_25 : decode cX6_foul 25 = .ok (.iaload, 1) := by decide +kernel
theorem dX6_foul_26 : decode cX6_foul 26 = .ok (.istore_n 3, 1) := by decide +kernel
theorem dX6_foul_27 : decode cX6_foul 27 = .ok (.aload_n 0, 1) := by decide +kernel
theorem dX6_foul_28 : decode cX6_foul 28 = .ok (.getfield 44, 3) := by decide +kernel
theorem dX6_foul_31 : decode cX6_foul 31 = .ok (.iload_n 1, 1) := by decide +kernel
theorem dX6_foul_32 : decode cX6_foul 32 = .ok (.iload_n 2, 1) := by decide +kernel
theorem dX6_foul_33 : decode cX6_foul 33 = .ok (.iastore, 1) := by decide +kernel
theorem dX6_foul_34 : decode cX6_foul 34 = .ok (.iload_n 3, 1) := by decide +kernel
theorem dX6_foul_35 : decode cX6_foul 35 = .ok (.ireturn, 1) := by decide +kernel
theorem dX6_entryOf_0 : decode cX6_entryOf 0 = .ok (.aload_n 0, 1) := by decide +kernel
theorem dX6_entryOf_1 : decode cX6_entryOf 1 = .ok (.getfield 38, 3) := by decide +kernel
theorem dX6_entryOf_4 : decode cX6_entryOf 4 = .ok (.iload_n 1, 1) := by decide +kernel
theorem dX6_entryOf_5 : decode cX6_entryOf 5 = .ok (.iaload, 1) := by decide +kernel
theorem dX6_entryOf_6 : decode cX6_entryOf 6 = .ok (.bipush (-9), 2) := by decide +kernel
theorem dX6_entryOf_8 : decode cX6_entryOf 8 = .ok (.if_icmp .ne 6, 3) := by decide +kernel
theorem dX6_entryOf_11 : decode cX6_entryOf 11 = .ok (.bipush (-9), 2) := by decide +kernel
theorem dX6_entryOf_13 : decode cX6_entryOf 13 = .ok (.ireturn, 1) := by decide +kernel
theorem dX6_entryOf_14 : decode cX6_entryOf 14 = .ok (.aload_n 0, 1) := by decide +kernel
theorem dX6_entryOf_15 : decode cX6_entryOf 15 = .ok (.getfield 38, 3) := by decide +kernel
theorem dX6_entryOf_18 : decode cX6_entryOf 18 = .ok (.iload_n 1, 1) := by decide +kernel
theorem dX6_entryOf_19 : decode cX6_entryOf 19 = .ok (.iaload, 1) := by decide +kernel
theorem dX6_entryOf_20 : decode cX6_entryOf 20 = .ok (.istore_n 2, 1) := by decide +kernel
theorem dX6_entryOf_21 : decode cX6_entryOf 21 = .ok (.iload_n 2, 1) := by decide +kernel
theorem dX6_entryOf_22 : decode cX6_entryOf 22 = .ok (.bipush 24, 2) := by decide +kernel
theorem dX6_entryOf_24 : decode cX6_entryOf 24 = .ok (.irem, 1) := by decide +kernel
theorem dX6_entryOf_25 : decode cX6_entryOf 25 = .ok (.bipush 24, 2) := by decide +kernel
theorem dX6_entryOf_27 : decode cX6_entryOf 27 = .ok (.iadd, 1) := by decide +kernel
theorem dX6_entryOf_28 : decode cX6_entryOf 28 = .ok (.aload_n 0, 1) := by decide +kernel
theorem dX6_entryOf_29 : decode cX6_entryOf 29 = .ok (.getfield 119, 3) := by decide +kernel
theorem dX6_entryOf_32 : decode cX6_entryOf 32 = .ok (.isub, 1) := by decide +kernel
theorem dX6_entryOf_33 : decode cX6_entryOf 33 = .ok (.bipush 24, 2) := by decide +kernel
theorem dX6_entryOf_35 : decode cX6_entryOf 35 = .ok (.irem, 1) := by decide +kernel
theorem dX6_entryOf_36 : decode cX6_entryOf 36 = .ok (.iconst 5, 1) := by decide +kernel
theorem dX6_entryOf_37 : decode cX6_entryOf 37 = .ok (.if_icmp .le 9, 3) := by decide +kernel
theorem dX6_entryOf_40 : decode cX6_entryOf 40 = .ok (.iinc 2 1, 3) := by decide +kernel
theorem dX6_entryOf_43 : decode cX6_entryOf 43 = .ok (.goto (-22), 3) := by decide +kernel
theorem dX6_entryOf_46 : decode cX6_entryOf 46 = .ok (.iload_n 2, 1) := by decide +kernel
theorem dX6_entryOf_47 : decode cX6_entryOf 47 = .ok (.ireturn, 1) := by decide +kernel
set_option maxRecDepth 20000 in
theorem ggX6_tells_X6_entryOf : GoodIn wsX6_tells wsX6_entryOf := goodIn_r _ [11, 5, 12, 13, 14, 15, 16, 17, 18, 19, 20, 21, 22, 23, 24, 25, 26, 27, 28, 29, 30, 31, 32, 33, 34, 35, 36, 37, 38, 39, 40, 41, 42, 43] (by decide +kernel) (by decide +kernel)
set_option maxRecDepth 20000 in
theorem gX6_tells_X6_entryOf : GoodIn wsX6_tells (wsV RX6 122 RX6 yX6_entryOf wsX6_entryOf) := goodIn_app (goodIn_of _ (by decide +kernel)) ggX6_tells_X6_entryOf
theorem dX6_tells_0 : decode cX6_tells 0 = .ok (.iload_n 2, 1) := by decide +kernel
theorem dX6_tells_1 : decode cX6_tells 1 = .ok (.tableswitch 80 0 5 #[39, 46, 53, 60, 67, 74], 39) := by decide +kernel
theorem dX6_tells_40 : decode cX6_tells 40 = .ok (.aload_n 0, 1) := by decide +kernel
theorem dX6_tells_41 : decode cX6_tells 41 = .ok (.getfield 26, 3) := by decide +kernel
theorem dX6_tells_44 : decode cX6_tells 44 = .ok (.iload_n 1, 1) := by decide +kernel
theorem dX6_tells_45 : decode cX6_tells 45 = .ok (.iaload, 1) := by decide +kernel
theorem dX6_tells_46 : decode cX6_tells 46 = .ok (.ireturn, 1) := by decide +kernel
theorem dX6_tells_47 : decode cX6_tells 47 = .ok (.aload_n 0, 1) := by decide +kernel
theorem dX6_tells_48 : decode cX6_tells 48 = .ok (.getfield 29, 3) := by decide +kernel
theorem dX6_tells_51 : decode cX6_tells 51 = .ok (.iload_n 1, 1) := by decide +kernel
theorem dX6_tells_52 : decode cX6_tells 52 = .ok (.iaload, 1) := by decide +kernel
theorem dX6_tells_53 : decode cX6_tells 53 = .ok (.ireturn, 1) := by decide +kernel
theorem dX6_tells_54 : decode cX6_tells 54 = .ok (.aload_n 0, 1) := by decide +kernel
theorem dX6_tells_55 : decode cX6_tells 55 = .ok (.getfield 32, 3) := by decide +kernel
theorem dX6_tells_58 : decode cX6_tells 58 = .ok (.iload_n 1, 1) := by decide +kernel
theorem dX6_tells_59 : decode cX6_tells 59 = .ok (.iaload, 1) := by decide +kernel
theorem dX6_tells_60 : decode cX6_tells 60 = .ok (.ireturn, 1) := by decide +kernel
theorem dX6_tells_61 : decode cX6_tells 61 = .ok (.aload_n 0, 1) := by decide +kernel
theorem dX6_tells_62 : decode cX6_tells 62 = .ok (.getfield 35, 3) := by decide +kernel
theorem dX6_tells_65 : decode cX6_tells 65 = .ok (.iload_n 1, 1) := by decide +kernel
theorem dX6_tells_66 : decode cX6_tells 66 = .ok (.iaload, 1) := by decide +kernel
theorem dX6_tells_67 : decode cX6_tells 67 = .ok (.ireturn, 1) := by decide +kernel
theorem dX6_tells_68 : decode cX6_tells 68 = .ok (.aload_n 0, 1) := by decide +kernel
theorem dX6_tells_69 : decode cX6_tells 69 = .ok (.getfield 38, 3) := by decide +kernel
theorem dX6_tells_72 : decode cX6_tells 72 = .ok (.iload_n 1, 1) := by decide +kernel
theorem dX6_tells_73 : decode cX6_tells 73 = .ok (.iaload, 1) := by decide +kernel
theorem dX6_tells_74 : decode cX6_tells 74 = .ok (.ireturn, 1) := by decide +kernel
theorem dX6_tells_75 : decode cX6_tells 75 = .ok (.aload_n 0, 1) := by decide +kernel
theorem dX6_tells_76 : decode cX6_tells 76 = .ok (.iload_n 1, 1) := by decide +kernel
theorem dX6_tells_77 : decode cX6_tells 77 = .ok (.invokevirtual 122, 3) := by decide +kernel
theorem dX6_tells_80 : decode cX6_tells 80 = .ok (.ireturn, 1) := by decide +kernel
theorem dX6_tells_81 : decode cX6_tells 81 = .ok (.aload_n 0, 1) := by decide +kernel
theorem dX6_tells_82 : decode cX6_tells 82 = .ok (.getfield 41, 3) := by decide +kernel
theorem dX6_tells_85 : decode cX6_tells 85 = .ok (.iload_n 1, 1) := by decide +kernel
theorem dX6_tells_86 : decode cX6_tells 86 = .ok (.iaload, 1) := by decide +kernel
theorem dX6_tells_87 : decode cX6_tells 87 = .ok (.ireturn, 1) := by decide +kernel
set_option maxRecDepth 20000 in
theorem ggX6_told_X6_isShip : GoodIn wsX6_told wsX6_isShip := goodIn_r _ [5, 6, 7, 8, 4, 9, 25, 26, 27, 28, 29, 30, 31, 32, 33, 34, 35, 36, 37, 38, 39, 40, 41, 42, 43, 44, 45, 46, 47, 48, 49, 50, 51, 52, 53, 54, 55] (by decide +kernel) (by decide +kernel)
set_option maxRecDepth 20000 in
theorem gX6_told_X6_isShip : GoodIn wsX6_told (wsV RX6 116 RX6 yX6_isShip wsX6_isShip) := goodIn_app (goodIn_of _ (by decide +kernel)) ggX6_told_X6_isShip
set_option maxRecDepth 20000 in
theorem ggX6_told_X6_in : GoodIn wsX6_told wsX6_in := goodIn_r _ [9] (by decide +kernel) (by decide +kernel)
set_option maxRecDepth 20000 in
theorem gX6_told_X6_in : GoodIn wsX6_told (va_wsS RX6 87 yX6_in wsX6_in) := goodIn_app (goodIn_of _ (by decide +kernel)) ggX6_told_X6_in
set_option maxRecDepth 20000 in
theorem ggX6_told_X6_tells : GoodIn wsX6_told wsX6_tells := goodIn_r _ [13, 14, 15, 16, 17, 18, 19, 20, 21, 22, 4, 23, 24, 25, 26, 27, 28, 29, 30, 31, 32, 33, 34, 35, 36, 37, 38, 39, 40, 41, 42, 43, 44, 45, 46, 47, 48, 49, 50, 51, 52, 53, 54, 55] (by decide +kernel) (by decide +kernel)
set_option maxRecDepth 20000 in
theorem gX6_told_X6_tells : GoodIn wsX6_told (wsV RX6 125 RX6 yX6_tells wsX6_tells) := goodIn_app (goodIn_of _ (by decide +kernel)) ggX6_told_X6_tells
theorem dX6_told_0 : decode cX6_told 0 = .ok (.aload_n 0, 1) := by decide +kernel
theorem dX6_told_1 : decode cX6_told 1 = .ok (.iload_n 1, 1) := by decide +kernel
theorem dX6_told_2 : decode cX6_told 2 = .ok (.invokevirtual 116, 3) := by decide +kernel
theorem dX6_told_5 : decode cX6_told 5 = .ok (.ifCond .eq 22, 3) := by decide +kernel
theorem dX6_told_8 : decode cX6_told 8 = .ok (.iload_n 2, 1) := by decide +kernel
theorem dX6_told_9 : decode cX6_told 9 = .ok (.iconst 0, 1) := by decide +kernel
theorem dX6_told_10 : decode cX6_told 10 = .ok (.bipush 6, 2) := by decide +kernel
theorem dX6_told_12 : decode cX6_told 12 = .ok (.invokestatic 87, 3) := by decide +kernel
theorem dX6_told_15 : decode cX6_told 15 = .ok (.ifCond .eq 12, 3) := by decide +kernel
theorem dX6_told_18 : decode cX6_told 18 = .ok (.aload_n 0, 1) := by decide +kernel
theorem dX6_told_19 : decode cX6_told 19 = .ok (.iload_n 1, 1) := by decide +kernel
theorem dX6_told_20 : decode cX6_told 20 = .ok (.iload_n 2, 1) := by decide +kernel
theorem dX6_told_21 : decode cX6_told 21 = .ok (.invokevirtual 125, 3) := by decide +kernel
theorem dX6_told_24 : decode cX6_told 24 = .ok (.goto 4, 3) := by decide +kernel
theorem dX6_told_27 : decode cX6_told 27 = .ok (.iconst (-1), 1) := by decide +kernel
theorem dX6_told_28 : decode cX6_told 28 = .ok (.ireturn, 1) := by decide +kernel
theorem dX6_speedOf_0 : decode cX6_speedOf 0 = .ok (.iload_n 2, 1) := by decide +kernel
theorem dX6_speedOf_1 : decode cX6_speedOf 1 = .ok (.iload_n 3, 1) := by decide +kernel
theorem dX6_speedOf_2 : decode cX6_speedOf 2 = .ok (.if_icmp .le 9, 3) := by decide +kernel
theorem dX6_speedOf_5 : decode cX6_speedOf 5 = .ok (.iload_n 2, 1) := by decide +kernel
theorem dX6_speedOf_6 : decode cX6_speedOf 6 = .ok (.iload_n 3, 1) := by decide +kernel
theorem dX6_speedOf_7 : decode cX6_speedOf 7 = .ok (.isub, 1) := by decide +kernel
theorem dX6_speedOf_8 : decode cX6_speedOf 8 = .ok (.goto 6, 3) := by decide +kernel
theorem dX6_speedOf_11 : decode cX6_speedOf 11 = .ok (.iload_n 3, 1) := by decide +kernel
theorem dX6_speedOf_12 : decode cX6_speedOf 12 = .ok (.iload_n 2, 1) := by decide +kernel
theorem dX6_speedOf_13 : decode cX6_speedOf 13 = .ok (.isub, 1) := by decide +kernel
theorem dX6_speedOf_14 : decode cX6_speedOf 14 = .ok (.istore 5, 2) := by decide +kernel
theorem dX6_speedOf_16 : decode cX6_speedOf 16 = .ok (.iload 5, 2) := by decide +kernel
theorem dX6_speedOf_18 : decode cX6_speedOf 18 = .ok (.iconst 4, 1) := by decide +kernel
theorem dX6_speedOf_19 : decode cX6_speedOf 19 = .ok (.if_icmp .le 11, 3) := by decide +kernel
theorem dX6_speedOf_22 : decode cX6_speedOf 22 = .ok (.bipush 8, 2) := by decide +kernel
theorem dX6_speedOf_24 : decode cX6_speedOf 24 = .ok (.iload 5, 2) := by decide +kernel
theorem dX6_speedOf_26 : decode cX6_speedOf 26 = .ok (.isub, 1) := by decide +kernel
theorem dX6_speedOf_27 : decode cX6_speedOf 27 = .ok (.goto 5, 3) := by decide +kernel
theorem dX6_speedOf_30 : decode cX6_speedOf 30 = .ok (.iload 5, 2) := by decide +kernel
theorem dX6_speedOf_32 : decode cX6_speedOf 32 = .ok (.istore 5, 2) := by decide +kernel
theorem dX6_speedOf_34 : decode cX6_speedOf 34 = .ok (.iload 5, 2) := by decide +kernel
theorem dX6_speedOf_36 : decode cX6_speedOf 36 = .ok (.iconst 4, 1) := by decide +kernel
theorem dX6_speedOf_37 : decode cX6_speedOf 37 = .ok (.if_icmp .ne 10, 3) := by decide +kernel
theorem dX6_speedOf_40 : decode cX6_speedOf 40 = .ok (.iconst 2, 1) := by decide +kernel
theorem dX6_speedOf_41 : decode cX6_speedOf 41 = .ok (.iload 4, 2) := by decide +kernel
theorem dX6_speedOf_43 : decode cX6_speedOf 43 = .ok (.imul, 1) := by decide +kernel
theorem dX6_speedOf_44 : decode cX6_speedOf 44 = .ok (.goto 8, 3) := by decide +kernel
theorem dX6_speedOf_47 : decode cX6_speedOf 47 = .ok (.iload 5, 2) := by decide +kernel
theorem dX6_speedOf_49 : decode cX6_speedOf 49 = .ok (.iload 4, 2) := by decide +kernel
theorem dX6_speedOf_51 : decode cX6_speedOf 51 = .ok (.imul, 1) := by decide +kernel
theorem dX6_speedOf_52 : decode cX6_speedOf 52 = .ok (.istore 6, 2) := by decide +kernel
theorem dX6_speedOf_54 : decode cX6_speedOf 54 = .ok (.iload 5, 2) := by decide +kernel
theorem dX6_speedOf_56 : decode cX6_speedOf 56 = .ok (.iconst 2, 1) := by decide +kernel
theorem dX6_speedOf_57 : decode cX6_speedOf 57 = .ok (.if_icmp .eq 9, 3) := by decide +kernel
theorem dX6_speedOf_60 : decode cX6_speedOf 60 = .ok (.iload 5, 2) := by decide +kernel
theorem dX6_speedOf_62 : decode cX6_speedOf 62 = .ok (.iconst 3, 1) := by decide +kernel
theorem dX6_speedOf_63 : decode cX6_speedOf 63 = .ok (.if_icmp .ne 8, 3) := by decide +kernel
theorem dX6_speedOf_66 : decode cX6_speedOf 66 = .ok (.iload 4, 2) := by decide +kernel
theorem dX6_speedOf_68 : decode cX6_speedOf 68 = .ok (.goto 4, 3) := by decide +kernel
theorem dX6_speedOf_71 : decode cX6_speedOf 71 = .ok (.iconst 0, 1) := by decide +kernel
theorem dX6_speedOf_72 : decode cX6_speedOf 72 = .ok (.istore 7, 2) := by decide +kernel
theorem dX6_speedOf_74 : decode cX6_speedOf 74 = .ok (.iload 6, 2) := by decide +kernel
theorem dX6_speedOf_76 : decode cX6_speedOf 76 = .ok (.aload_n 0, 1) := by decide +kernel
theorem dX6_speedOf_77 : decode cX6_speedOf 77 = .ok (.getfield 26, 3) := by decide +kernel
theorem dX6_speedOf_80 : decode cX6_speedOf 80 = .ok (.iload_n 1, 1) := by decide +kernel
theorem dX6_speedOf_81 : decode cX6_speedOf 81 = .ok (.iaload, 1) := by decide +kernel
theorem dX6_speedOf_82 : decode cX6_speedOf 82 = .ok (.iconst 1, 1) := by decide +kernel
theorem dX6_speedOf_83 : decode cX6_speedOf 83 = .ok (.if_icmp .ne 8, 3) := by decide +kernel
theorem dX6_speedOf_86 : decode cX6_speedOf 86 = .ok (.iload 7, 2) := by decide +kernel
theorem dX6_speedOf_88 : decode cX6_speedOf 88 = .ok (.goto 21, 3) := by decide +kernel
theorem dX6_speedOf_91 : decode cX6_speedOf 91 = .ok (.aload_n 0, 1) := by decide +kernel
theorem dX6_speedOf_92 : decode cX6_speedOf 92 = .ok (.getfield 26, 3) := by decide +kernel
theorem dX6_speedOf_95 : decode cX6_speedOf 95 = .ok (.iload_n 1, 1) := by decide +kernel
theorem dX6_speedOf_96 : decode cX6_speedOf 96 = .ok (.iaload, 1) := by decide +kernel
theorem dX6_speedOf_97 : decode cX6_speedOf 97 = .ok (.iconst 3, 1) := by decide +kernel
theorem dX6_speedOf_98 : decode cX6_speedOf 98 = .ok (.if_icmp .ne 10, 3) := by decide +kernel
theorem dX6_speedOf_101 : decode cX6_speedOf 101 = .ok (.iconst 2, 1) := by decide +kernel
theorem dX6_speedOf_102 : decode cX6_speedOf 102 = .ok (.iload 7, 2) := by decide +kernel
theorem dX6_speedOf_104 : decode cX6_speedOf 104 = .ok (.imul, 1) := by decide +kernel
theorem dX6_speedOf_105 : decode cX6_speedOf 105 = .ok (.goto 4, 3) := by decide +kernel
theorem dX6_speedOf_108 : decode cX6_speedOf 108 = .ok (.iconst 0, 1) := by decide +kernel
theorem dX6_speedOf_109 : decode cX6_speedOf 109 = .ok (.iadd, 1) := by decide +kernel
theorem dX6_speedOf_110 : decode cX6_speedOf 110 = .ok (.istore 6, 2) := by decide +kernel
theorem dX6_speedOf_112 : decode cX6_speedOf 112 = .ok (.aload_n 0, 1) := by decide +kernel
theorem dX6_speedOf_113 : decode cX6_speedOf 113 = .ok (.getfield 26, 3) := by decide +kernel
theorem dX6_speedOf_116 : decode cX6_speedOf 116 = .ok (.iload_n 1, 1) := by decide +kernel
theorem dX6_speedOf_117 : decode cX6_speedOf 117 = .ok (.iaload, 1) := by decide +kernel
theorem dX6_speedOf_118 : decode cX6_speedOf 118 = .ok (.iconst 2, 1) := by decide +kernel
theorem dX6_speedOf_119 : decode cX6_speedOf 119 = .ok (.if_icmp .ne 8, 3) := by decide +kernel
theorem dX6_speedOf_122 : decode cX6_speedOf 122 = .ok (.bipush 8, 2) := by decide +kernel
theorem dX6_speedOf_124 : decode cX6_speedOf 124 = .ok (.goto 5, 3) := by decide +kernel
theorem dX6_speedOf_127 : decode cX6_speedOf 127 = .ok (.iload 6, 2) := by decide +kernel
theorem dX6_speedOf_129 : decode cX6_speedOf 129 = .ok (.istore 6, 2) := by decide +kernel
theorem dX6_speedOf_131 : decode cX6_speedOf 131 = .ok (.iload 6, 2) := by decide +kernel
theorem dX6_speedOf_133 : decode cX6_speedOf 133 = .ok (.aload_n 0, 1) := by decide +kernel
theorem dX6_speedOf_134 : decode cX6_speedOf 134 = .ok (.getfield 44, 3) := by decide +kernel
theorem dX6_speedOf_137 : decode cX6_speedOf 137 = .ok (.iload_n 1, 1) := by decide +kernel
theorem dX6_speedOf_138 : decode cX6_speedOf 138 = .ok (.iaload, 1) := by decide +kernel
theorem dX6_speedOf_139 : decode cX6_speedOf 139 = .ok (.if_icmp .le 15, 3) := by decide +kernel
theorem dX6_speedOf_142 : decode cX6_speedOf 142 = .ok (.iload 6, 2) := by decide +kernel
theorem dX6_speedOf_144 : decode cX6_speedOf 144 = .ok (.aload_n 0, 1) := by decide +kernel
theorem dX6_speedOf_145 : decode cX6_speedOf 145 = .ok (.getfield 44, 3) := by decide +kernel
theorem dX6_speedOf_148 : decode cX6_speedOf 148 = .ok (.iload_n 1, 1) := by decide +kernel
theorem dX6_speedOf_149 : decode cX6_speedOf 149 = .ok (.iaload, 1) := by decide +kernel
theorem dX6_speedOf_150 : decode cX6_speedOf 150 = .ok (.isub, 1) := by decide +kernel
theorem dX6_speedOf_151 : decode cX6_speedOf 151 = .ok (.goto 4, 3) := by decide +kernel
theorem dX6_speedOf_154 : decode cX6_speedOf 154 = .ok (.iconst 0, 1) := by decide +kernel
theorem dX6_speedOf_155 : decode cX6_speedOf 155 = .ok (.ireturn, 1) := by decide +kernel
set_option maxRecDepth 20000 in
theorem ggX6_mark_X6_isShip : GoodIn wsX6_mark wsX6_isShip := goodIn_r _ [8, 9, 10, 11, 7, 12, 24, 25, 26, 27, 28, 29, 30, 31, 32, 33, 34, 35, 36, 37, 38, 39, 40, 41, 42, 43, 44, 45, 46, 47, 48, 49, 50, 51, 52, 53, 54] (by decide +kernel) (by decide +kernel)
set_option maxRecDepth 20000 in
theorem gX6_mark_X6_isShip : GoodIn wsX6_mark (wsV RX6 116 RX6 yX6_isShip wsX6_isShip) := goodIn_app (goodIn_of _ (by decide +kernel)) ggX6_mark_X6_isShip
set_option maxRecDepth 20000 in
theorem ggX6_mark_X6_in : GoodIn wsX6_mark wsX6_in := goodIn_r _ [12] (by decide +kernel) (by decide +kernel)
set_option maxRecDepth 20000 in
theorem gX6_mark_X6_in : GoodIn wsX6_mark (va_wsS RX6 87 yX6_in wsX6_in) := goodIn_app (goodIn_of _ (by decide +kernel)) ggX6_mark_X6_in
set_option maxRecDepth 20000 in
theorem ggX6_mark_X6_meets : GoodIn wsX6_mark wsX6_meets := goodIn_r _ [16, 17, 18, 24, 25, 26, 27, 28, 29, 30, 31, 32, 33, 34, 35, 36, 37, 38, 39, 40, 41, 42, 43, 44, 45, 46, 47, 48, 49, 50, 51, 52, 53, 54] (by decide +kernel) (by decide +kernel)
set_option maxRecDepth 20000 in
theorem gX6_mark_X6_meets : GoodIn wsX6_mark (wsV RX6 98 RX6 yX6_meets wsX6_meets) := goodIn_app (goodIn_of _ (by decide +kernel)) ggX6_mark_X6_meets
set_option maxRecDepth 20000 in
theorem ggX6_mark_X6_speedOf : GoodIn wsX6_mark wsX6_speedOf := goodIn_r _ [22, 1, 23, 24, 25, 26, 27, 28, 29, 30, 31, 32, 33, 34, 35, 36, 37, 38, 39, 40, 41, 42, 43, 44, 45, 46, 47, 48, 49, 50, 51, 52, 53, 54] (by decide +kernel) (by decide +kernel)
set_option maxRecDepth 20000 in
theorem gX6_mark_X6_speedOf : GoodIn wsX6_mark (wsV RX6 129 RX6 yX6_speedOf wsX6_speedOf) := goodIn_app (goodIn_of _ (by decide +kernel)) ggX6_mark_X6_speedOf
theorem dX6_mark_0 : decode cX6_mark 0 = .ok (.aload_n 0, 1) := by decide +kernel
theorem dX6_mark_1 : decode cX6_mark 1 = .ok (.iload_n 1, 1) := by decide +kernel
theorem dX6_mark_2 : decode cX6_mark 2 = .ok (.invokevirtual 116, 3) := by decide +kernel
theorem dX6_mark_5 : decode cX6_mark 5 = .ok (.ifCond .eq 12, 3) := by decide +kernel
theorem dX6_mark_8 : decode cX6_mark 8 = .ok (.iload_n 2, 1) := by decide +kernel
theorem dX6_mark_9 : decode cX6_mark 9 = .ok (.iconst 1, 1) := by decide +kernel
theorem dX6_mark_10 : decode cX6_mark 10 = .ok (.iconst 3, 1) := by decide +kernel
theorem dX6_mark_11 : decode cX6_mark 11 = .ok (.invokestatic 87, 3) := by decide +kernel
theorem dX6_mark_14 : decode cX6_mark 14 = .ok (.ifCond .ne 5, 3) := by decide +kernel
theorem dX6_mark_17 : decode cX6_mark 17 = .ok (.iconst (-1), 1) := by decide +kernel
theorem dX6_mark_18 : decode cX6_mark 18 = .ok (.ireturn, 1) := by decide +kernel
theorem dX6_mark_19 : decode cX6_mark 19 = .ok (.aload_n 0, 1) := by decide +kernel
theorem dX6_mark_20 : decode cX6_mark 20 = .ok (.getfield 26, 3) := by decide +kernel
theorem dX6_mark_23 : decode cX6_mark 23 = .ok (.iload_n 1, 1) := by decide +kernel
theorem dX6_mark_24 : decode cX6_mark 24 = .ok (.iaload, 1) := by decide +kernel
theorem dX6_mark_25 : decode cX6_mark 25 = .ok (.istore_n 3, 1) := by decide +kernel
theorem dX6_mark_26 : decode cX6_mark 26 = .ok (.iload_n 2, 1) := by decide +kernel
theorem dX6_mark_27 : decode cX6_mark 27 = .ok (.iload_n 3, 1) := by decide +kernel
theorem dX6_mark_28 : decode cX6_mark 28 = .ok (.if_icmp .eq 19, 3) := by decide +kernel
theorem dX6_mark_31 : decode cX6_mark 31 = .ok (.iload_n 2, 1) := by decide +kernel
theorem dX6_mark_32 : decode cX6_mark 32 = .ok (.iconst 1, 1) := by decide +kernel
theorem dX6_mark_33 : decode cX6_mark 33 = .ok (.if_icmp .ne 8, 3) := by decide +kernel
theorem dX6_mark_36 : decode cX6_mark 36 = .ok (.iload_n 3, 1) := by decide +kernel
theorem dX6_mark_37 : decode cX6_mark 37 = .ok (.iconst 3, 1) := by decide +kernel
theorem dX6_mark_38 : decode cX6_mark 38 = .ok (.if_icmp .eq 9, 3) := by decide +kernel
theorem dX6_mark_41 : decode cX6_mark 41 = .ok (.aload_n 0, 1) := by decide +kernel
theorem dX6_mark_42 : decode cX6_mark 42 = .ok (.iconst 3, 1) := by decide +kernel
theorem dX6_mark_43 : decode cX6_mark 43 = .ok (.invokevirtual 98, 3) := by decide +kernel
theorem dX6_mark_46 : decode cX6_mark 46 = .ok (.ireturn, 1) := by decide +kernel
theorem dX6_mark_47 : decode cX6_mark 47 = .ok (.iload_n 2, 1) := by decide +kernel
theorem dX6_mark_48 : decode cX6_mark 48 = .ok (.iconst 1, 1) := by decide +kernel
theorem dX6_mark_49 : decode cX6_mark 49 = .ok (.if_icmp .ne 12, 3) := by decide +kernel
theorem dX6_mark_52 : decode cX6_mark 52 = .ok (.aload_n 0, 1) := by decide +kernel
theorem dX6_mark_53 : decode cX6_mark 53 = .ok (.getfield 50, 3) := by decide +kernel
theorem dX6_mark_56 : decode cX6_mark 56 = .ok (.iload_n 1, 1) := by decide +kernel
theorem dX6_mark_57 : decode cX6_mark 57 = .ok (.iaload, 1) := by decide +kernel
theorem dX6_mark_58 : decode cX6_mark 58 = .ok (.goto 25, 3) := by decide +kernel
theorem dX6_mark_61 : decode cX6_mark 61 = .ok (.iload_n 2, 1) := by decide +kernel
theorem dX6_mark_62 : decode cX6_mark 62 = .ok (.iconst 2, 1) := by decide +kernel
theorem dX6_mark_63 : decode cX6_mark 63 = .ok (.if_icmp .ne 14, 3) := by decide +kernel
theorem dX6_mark_66 : decode cX6_mark 66 = .ok (.aload_n 0, 1) := by decide +kernel
theorem dX6_mark_67 : decode cX6_mark 67 = .ok (.iload_n 1, 1) := by decide +kernel
theorem dX6_mark_68 : decode cX6_mark 68 = .ok (.iconst 0, 1) := by decide +kernel
theorem dX6_mark_69 : decode cX6_mark 69 = .ok (.iconst 0, 1) := by decide +kernel
theorem dX6_mark_70 : decode cX6_mark 70 = .ok (.iconst 0, 1) := by decide +kernel
theorem dX6_mark_71 : decode cX6_mark 71 = .ok (.invokevirtual 129, 3) := by decide +kernel
theorem dX6_mark_74 : decode cX6_mark 74 = .ok (.goto 9, 3) := by decide +kernel
theorem dX6_mark_77 : decode cX6_mark 77 = .ok (.aload_n 0, 1) := by decide +kernel
theorem dX6_mark_78 : decode cX6_mark 78 = .ok (.getfield 47, 3) := by decide +kernel
theorem dX6_mark_81 : decode cX6_mark 81 = .ok (.iload_n 1, 1) := by decide +kernel
theorem dX6_mark_82 : decode cX6_mark 82 = .ok (.iaload, 1) := by decide +kernel
theorem dX6_mark_83 : decode cX6_mark 83 = .ok (.ireturn, 1) := by decide +kernel
set_option maxRecDepth 20000 in
theorem ggX6_isWay_X6_in : GoodIn wsX6_isWay wsX6_in := goodIn_r _ [4] (by decide +kernel) (by decide +kernel)
set_option maxRecDepth 20000 in
theorem gX6_isWay_X6_in : GoodIn wsX6_isWay (va_wsS RX6 87 yX6_in wsX6_in) := goodIn_app (goodIn_of _ (by decide +kernel)) ggX6_isWay_X6_in
theorem dX6_isWay_0 : decode cX6_isWay 0 = .ok (.iload_n 0, 1) := by decide +kernel
theorem dX6_isWay_1 : decode cX6_isWay 1 = .ok (.iconst 0, 1) := by decide +kernel
theorem dX6_isWay_2 : decode cX6_isWay 2 = .ok (.bipush 7, 2) := by decide +kernel
theorem dX6_isWay_4 : decode cX6_isWay 4 = .ok (.invokestatic 87, 3) := by decide +kernel
theorem dX6_isWay_7 : decode cX6_isWay 7 = .ok (.ireturn, 1) := by decide +kernel
set_option maxRecDepth 20000 in
theorem ggX6_speed_X6_isShip : GoodIn wsX6_speed wsX6_isShip := goodIn_r _ [5, 6, 7, 8, 4, 9, 19, 20, 21, 22, 23, 24, 25, 26, 27, 28, 29, 30, 31, 32, 33, 34, 35, 36, 37, 38, 39, 40, 41, 42, 43, 44, 45, 46, 47, 48, 49] (by decide +kernel) (by decide +kernel)
set_option maxRecDepth 20000 in
theorem gX6_speed_X6_isShip : GoodIn wsX6_speed (wsV RX6 116 RX6 yX6_isShip wsX6_isShip) := goodIn_app (goodIn_of _ (by decide +kernel)) ggX6_speed_X6_isShip
set_option maxRecDepth 20000 in
theorem ggX6_speed_X6_isWay : GoodIn wsX6_speed wsX6_isWay := goodIn_r _ [12, 7, 8, 4, 9] (by decide +kernel) (by decide +kernel)
set_option maxRecDepth 20000 in
theorem gX6_speed_X6_isWay : GoodIn wsX6_speed (va_wsS RX6 133 yX6_isWay wsX6_isWay) := goodIn_app (goodIn_of _ (by decide +kernel)) ggX6_speed_X6_isWay
set_option maxRecDepth 20000 in
theorem ggX6_speed_X6_in : GoodIn wsX6_speed wsX6_in := goodIn_r _ [9] (by decide +kernel) (by decide +kernel)
set_option maxRecDepth 20000 in
theorem gX6_speed_X6_in : GoodIn wsX6_speed (va_wsS RX6 87 yX6_in wsX6_in) := goodIn_app (goodIn_of _ (by decide +kernel)) ggX6_speed_X6_in
set_option maxRecDepth 20000 in
theorem ggX6_speed_X6_speedOf : GoodIn wsX6_speed wsX6_speedOf := goodIn_r _ [16, 17, 18, 19, 20, 21, 22, 23, 24, 25, 26, 27, 28, 29, 30, 31, 32, 33, 34, 35, 36, 37, 38, 39, 40, 41, 42, 43, 44, 45, 46, 47, 48, 49] (by decide +kernel) (by decide +kernel)
set_option maxRecDepth 20000 in
theorem gX6_speed_X6_speedOf : GoodIn wsX6_speed (wsV RX6 129 RX6 yX6_speedOf wsX6_speedOf) := goodIn_app (goodIn_of _ (by decide +kernel)) ggX6_speed_X6_speedOf
theorem dX6_speed_0 : decode cX6_speed 0 = .ok (.aload_n 0, 1) := by decide +kernel
theorem dX6_speed_1 : decode cX6_speed 1 = .ok (.iload_n 1, 1) := by decide +kernel
theorem dX6_speed_2 : decode cX6_speed 2 = .ok (.invokevirtual 116, 3) := by decide +kernel
theorem dX6_speed_5 : decode cX6_speed 5 = .ok (.ifCond .eq 40, 3) := by decide +kernel
theorem dX6_speed_8 : decode cX6_speed 8 = .ok (.iload_n 2, 1) := by decide +kernel
theorem dX6_speed_9 : decode cX6_speed 9 = .ok (.invokestatic 133, 3) := by decide +kernel
theorem dX6_speed_12 : decode cX6_speed 12 = .ok (.ifCond .eq 33, 3) := by decide +kernel
theorem dX6_speed_15 : decode cX6_speed 15 = .ok (.iload_n 3, 1) := by decide +kernel
theorem dX6_speed_16 : decode cX6_speed 16 = .ok (.invokestatic 133, 3) := by decide +kernel
theorem dX6_speed_19 : decode cX6_speed 19 = .ok (.ifCond .eq 26, 3) := by decide +kernel
theorem dX6_speed_22 : decode cX6_speed 22 = .ok (.iload 4, 2) := by decide +kernel
theorem dX6_speed_24 : decode cX6_speed 24 = .ok (.iconst 0, 1) := by decide +kernel
theorem dX6_speed_25 : decode cX6_speed 25 = .ok (.bipush 9, 2) := by decide +kernel
theorem dX6_speed_27 : decode cX6_speed 27 = .ok (.invokestatic 87, 3) := by decide +kernel
theorem dX6_speed_30 : decode cX6_speed 30 = .ok (.ifCond .eq 15, 3) := by decide +kernel
theorem dX6_speed_33 : decode cX6_speed 33 = .ok (.aload_n 0, 1) := by decide +kernel
theorem dX6_speed_34 : decode cX6_speed 34 = .ok (.iload_n 1, 1) := by decide +kernel
theorem dX6_speed_35 : decode cX6_speed 35 = .ok (.iload_n 2, 1) := by decide +kernel
theorem dX6_speed_36 : decode cX6_speed 36 = .ok (.iload_n 3, 1) := by decide +kernel
theorem dX6_speed_37 : decode cX6_speed 37 = .ok (.iload 4, 2) := by decide +kernel
theorem dX6_speed_39 : decode cX6_speed 39 = .ok (.invokevirtual 129, 3) := by decide +kernel
theorem dX6_speed_42 : decode cX6_speed 42 = .ok (.goto 4, 3) := by decide +kernel
theorem dX6_speed_45 : decode cX6_speed 45 = .ok (.iconst (-1), 1) := by decide +kernel
theorem dX6_speed_46 : decode cX6_speed 46 = .ok (.ireturn, 1) := by decide +kernel
set_option maxRecDepth 20000 in
theorem ggX6_order_X6_isShip : GoodIn wsX6_order wsX6_isShip := goodIn_r _ [7, 8, 9, 10, 6, 11, 15, 16, 17, 18, 19, 20, 21, 22, 23, 24, 25, 26, 27, 28, 29, 30, 31, 32, 33, 34, 35, 36, 37, 38, 39, 40, 41, 42, 43, 44, 45] (by decide +kernel) (by decide +kernel)
set_option maxRecDepth 20000 in
theorem gX6_order_X6_isShip : GoodIn wsX6_order (wsV RX6 116 RX6 yX6_isShip wsX6_isShip) := goodIn_app (goodIn_of _ (by decide +kernel)) ggX6_order_X6_isShip
set_option maxRecDepth 20000 in
theorem ggX6_order_X6_in : GoodIn wsX6_order wsX6_in := goodIn_r _ [11] (by decide +kernel) (by decide +kernel)
set_option maxRecDepth 20000 in
theorem gX6_order_X6_in : GoodIn wsX6_order (va_wsS RX6 87 yX6_in wsX6_in) := goodIn_app (goodIn_of _ (by decide +kernel)) ggX6_order_X6_in
set_option maxRecDepth 20000 in
theorem ggX6_order_X6_isWay : GoodIn wsX6_order wsX6_isWay := goodIn_r _ [14, 9, 10, 6, 11] (by decide +kernel) (by decide +kernel)
set_option maxRecDepth 20000 in
theorem gX6_order_X6_isWay : GoodIn wsX6_order (va_wsS RX6 133 yX6_isWay wsX6_isWay) := goodIn_app (goodIn_of _ (by decide +kernel)) ggX6_order_X6_isWay
theorem dX6_order_0 : decode cX6_order 0 = .ok (.aload_n 0, 1) := by decide +kernel
theorem dX6_order_1 : decode cX6_order 1 = .ok (.iload_n 1, 1) := by decide +kernel
theorem dX6_order_2 : decode cX6_order 2 = .ok (.invokevirtual 116, 3) := by decide +kernel
theorem dX6_order_5 : decode cX6_order 5 = .ok (.ifCond .eq 65, 3) := by decide +kernel
theorem dX6_order_8 : decode cX6_order 8 = .ok (.iload_n 2, 1) := by decide +kernel
theorem dX6_order_9 : decode cX6_order 9 = .ok (.iconst 0, 1) := by decide +kernel
theorem dX6_order_10 : decode cX6_order 10 = .ok (.bipush 15, 2) := by decide +kernel
theorem dX6_order_12 : decode cX6_order 12 = .ok (.invokestatic 87, 3) := by decide +kernel
theorem dX6_order_15 : decode cX6_order 15 = .ok (.ifCond .eq 55, 3) := by decide +kernel
theorem dX6_order_18 : decode cX6_order 18 = .ok (.iload_n 3, 1) := by decide +kernel
theorem dX6_order_19 : decode cX6_order 19 = .ok (.iload_n 2, 1) := by decide +kernel
theorem dX6_order_20 : decode cX6_order 20 = .ok (.bipush 15, 2) := by decide +kernel
theorem dX6_order_22 : decode cX6_order 22 = .ok (.invokestatic 87, 3) := by decide +kernel
theorem dX6_order_25 : decode cX6_order 25 = .ok (.ifCond .eq 45, 3) := by decide +kernel
theorem dX6_order_28 : decode cX6_order 28 = .ok (.iload 4, 2) := by decide +kernel
theorem dX6_order_30 : decode cX6_order 30 = .ok (.iconst 0, 1) := by decide +kernel
theorem dX6_order_31 : decode cX6_order 31 = .ok (.bipush 9, 2) := by decide +kernel
theorem dX6_order_33 : decode cX6_order 33 = .ok (.invokestatic 87, 3) := by decide +kernel
theorem dX6_order_36 : decode cX6_order 36 = .ok (.ifCond .eq 34, 3) := by decide +kernel
theorem dX6_order_39 : decode cX6_order 39 = .ok (.iload 5, 2) := by decide +kernel
theorem dX6_order_41 : decode cX6_order 41 = .ok (.iload 4, 2) := by decide +kernel
theorem dX6_order_43 : decode cX6_order 43 = .ok (.bipush 9, 2) := by decide +kernel
theorem dX6_order_45 : decode cX6_order 45 = .ok (.invokestatic 87, 3) := by decide +kernel
theorem dX6_order_48 : decode cX6_order 48 = .ok (.ifCond .eq 22, 3) := by decide +kernel
theorem dX6_order_51 : decode cX6_order 51 = .ok (.iload 6, 2) := by decide +kernel
theorem dX6_order_53 : decode cX6_order 53 = .ok (.iconst 0, 1) := by decide +kernel
theorem dX6_order_54 : decode cX6_order 54 = .ok (.bipush 9, 2) := by decide +kernel
theorem dX6_order_56 : decode cX6_order 56 = .ok (.invokestatic 87, 3) := by decide +kernel
theorem dX6_order_59 : decode cX6_order 59 = .ok (.ifCond .eq 11, 3) := by decide +kernel
theorem dX6_order_62 : decode cX6_order 62 = .ok (.iload 7, 2) := by decide +kernel
theorem dX6_order_64 : decode cX6_order 64 = .ok (.invokestatic 133, 3) := by decide +kernel
theorem dX6_order_67 : decode cX6_order 67 = .ok (.ifCond .ne 5, 3) := by decide +kernel
theorem dX6_order_70 : decode cX6_order 70 = .ok (.iconst (-1), 1) := by decide +kernel
theorem dX6_order_71 : decode cX6_order 71 = .ok (.ireturn, 1) := by decide +kernel
theorem dX6_order_72 : decode cX6_order 72 = .ok (.aload_n 0, 1) := by decide +kernel
theorem dX6_order_73 : decode cX6_order 73 = .ok (.getfield 50, 3) := by decide +kernel
theorem dX6_order_76 : decode cX6_order 76 = .ok (.iload_n 1, 1) := by decide +kernel
theorem dX6_order_77 : decode cX6_order 77 = .ok (.iaload, 1) := by decide +kernel
theorem dX6_order_78 : decode cX6_order 78 = .ok (.bipush 20, 2) := by decide +kernel
theorem dX6_order_80 : decode cX6_order 80 = .ok (.if_icmp .ne 6, 3) := by decide +kernel
theorem dX6_order_83 : decode cX6_order 83 = .ok (.bipush (-2), 2) := by decide +kernel
theorem dX6_order_85 : decode cX6_order 85 = .ok (.ireturn, 1) := by decide +kernel
theorem dX6_order_86 : decode cX6_order 86 = .ok (.bipush 120, 2) := by decide +kernel
theorem dX6_order_88 : decode cX6_order 88 = .ok (.iload_n 1, 1) := by decide +kernel
theorem dX6_order_89 : decode cX6_order 89 = .ok (.imul, 1) := by decide +kernel
theorem dX6_order_90 : decode cX6_order 90 = .ok (.bipush 6, 2) := by decide +kernel
theorem dX6_order_92 : decode cX6_order 92 = .ok (.aload_n 0, 1) := by decide +kernel
theorem dX6_order_93 : decode cX6_order 93 = .ok (.getfield 50, 3) := by decide +kernel
theorem dX6_order_96 : decode cX6_order 96 = .ok (.iload_n 1, 1) := by decide +kernel
theorem dX6_order_97 : decode cX6_order 97 = .ok (.iaload, 1) := by decide +kernel
theorem dX6_order_98 : decode cX6_order 98 = .ok (.imul, 1) := by decide +kernel
theorem dX6_order_99 : decode cX6_order 99 = .ok (.iadd, 1) := by decide +kernel
theorem dX6_order_100 : decode cX6_order 100 = .ok (.istore 8, 2) := by decide +kernel
theorem dX6_order_102 : decode cX6_order 102 = .ok (.aload_n 0, 1) := by decide +kernel
theorem dX6_order_103 : decode cX6_order 103 = .ok (.getfield 53, 3) := by decide +kernel
theorem dX6_order_106 : decode cX6_order 106 = .ok (.iload 8, 2) := by decide +kernel
theorem dX6_order_108 : decode cX6_order 108 = .ok (.iload_n 2, 1) := by decide +kernel
theorem dX6_order_109 : decode cX6_order 109 = .ok (.iastore, 1) := by decide +kernel
theorem dX6_order_110 : decode cX6_order 110 = .ok (.aload_n 0, 1) := by decide +kernel
theorem dX6_order_111 : decode cX6_order 111 = .ok (.getfield 53, 3) := by decide +kernel
theorem dX6_order_114 : decode cX6_order 114 = .ok (.iload 8, 2) := by decide +kernel
theorem dX6_order_116 : decode cX6_order 116 = .ok (.iconst 1, 1) := by decide +kernel
theorem dX6_order_117 : decode cX6_order 117 = .ok (.iadd, 1) := by decide +kernel
theorem dX6_order_118 : decode cX6_order 118 = .ok (.iload_n 3, 1) := by decide +kernel
theorem dX6_order_119 : decode cX6_order 119 = .ok (.iastore, 1) := by decide +kernel
theorem dX6_order_120 : decode cX6_order 120 = .ok (.aload_n 0, 1) := by decide +kernel
theorem dX6_order_121 : decode cX6_order 121 = .ok (.getfield 53, 3) := by decide +kernel
theorem dX6_order_124 : decode cX6_order 124 = .ok (.iload 8, 2) := by decide +kernel
theorem dX6_order_126 : decode cX6_order 126 = .ok (.iconst 2, 1) := by decide +kernel
theorem dX6_order_127 : decode cX6_order 127 = .ok (.iadd, 1) := by decide +kernel
theorem dX6_order_128 : decode cX6_order 128 = .ok (.iload 4, 2) := by decide +kernel
theorem dX6_order_130 : decode cX6_order 130 = .ok (.iastore, 1) := by decide +kernel
theorem dX6_order_131 : decode cX6_order 131 = .ok (.aload_n 0, 1) := by decide +kernel
theorem dX6_order_132 : decode cX6_order 132 = .ok (.getfield 53, 3) := by decide +kernel
theorem dX6_order_135 : decode cX6_order 135 = .ok (.iload 8, 2) := by decide +kernel
theorem dX6_order_137 : decode cX6_order 137 = .ok (.iconst 3, 1) := by decide +kernel
theorem dX6_order_138 : decode cX6_order 138 = .ok (.iadd, 1) := by decide +kernel
theorem dX6_order_139 : decode cX6_order 139 = .ok (.iload 5, 2) := by decide +kernel
theorem dX6_order_141 : decode cX6_order 141 = .ok (.iastore, 1) := by decide +kernel
theorem dX6_order_142 : decode cX6_order 142 = .ok (.aload_n 0, 1) := by decide +kernel
theorem dX6_order_143 : decode cX6_order 143 = .ok (.getfield 53, 3) := by decide +kernel
theorem dX6_order_146 : decode cX6_order 146 = .ok (.iload 8, 2) := by decide +kernel
theorem dX6_order_148 : decode cX6_order 148 = .ok (.iconst 4, 1) := by decide +kernel
theorem dX6_order_149 : decode cX6_order 149 = .ok (.iadd, 1) := by decide +kernel
theorem dX6_order_150 : decode cX6_order 150 = .ok (.iload 6, 2) := by decide +kernel
theorem dX6_order_152 : decode cX6_order 152 = .ok (.iastore, 1) := by decide +kernel
theorem dX6_order_153 : decode cX6_order 153 = .ok (.aload_n 0, 1) := by decide +kernel
theorem dX6_order_154 : decode cX6_order 154 = .ok (.getfield 53, 3) := by decide +kernel
theorem dX6_order_157 : decode cX6_order 157 = .ok (.iload 8, 2) := by decide +kernel
theorem dX6_order_159 : decode cX6_order 159 = .ok (.iconst 5, 1) := by decide +kernel
theorem dX6_order_160 : decode cX6_order 160 = .ok (.iadd, 1) := by decide +kernel
theorem dX6_order_161 : decode cX6_order 161 = .ok (.iload 7, 2) := by decide +kernel
theorem dX6_order_163 : decode cX6_order 163 = .ok (.iastore, 1) := by decide +kernel
theorem dX6_order_164 : decode cX6_order 164 = .ok (.aload_n 0, 1) := by decide +kernel
theorem dX6_order_165 : decode cX6_order 165 = .ok (.getfield 50, 3) := by decide +kernel
theorem dX6_order_168 : decode cX6_order 168 = .ok (.iload_n 1, 1) := by decide +kernel
theorem dX6_order_169 : decode cX6_order 169 = .ok (.dup2, 1) := by decide +kernel
theorem dX6_order_170 : decode cX6_order 170 = .ok (.iaload, 1) := by decide +kernel
theorem dX6_order_171 : decode cX6_order 171 = .ok (.iconst 1, 1) := by decide +kernel
theorem dX6_order_172 : decode cX6_order 172 = .ok (.iadd, 1) := by decide +kernel
theorem dX6_order_173 : decode cX6_order 173 = .ok (.iastore, 1) := by decide +kernel
theorem dX6_order_174 : decode cX6_order 174 = .ok (.aload_n 0, 1) := by decide +kernel
theorem dX6_order_175 : decode cX6_order 175 = .ok (.getfield 50, 3) := by decide +kernel
theorem dX6_order_178 : decode cX6_order 178 = .ok (.iload_n 1, 1) := by decide +kernel
theorem dX6_order_179 : decode cX6_order 179 = .ok (.iaload, 1) := by decide +kernel
theorem dX6_order_180 : decode cX6_order 180 = .ok (.ireturn, 1) := by decide +kernel
set_option maxRecDepth 20000 in
theorem ggX6_home_X6_isCell : GoodIn wsX6_home wsX6_isCell := goodIn_r _ [8, 9, 10, 7, 11] (by decide +kernel) (by decide +kernel)
set_option maxRecDepth 20000 in
theorem gX6_home_X6_isCell : GoodIn wsX6_home (va_wsS RX6 91 yX6_isCell wsX6_isCell) := goodIn_app (goodIn_of _ (by decide +kernel)) ggX6_home_X6_isCell
set_option maxRecDepth 20000 in
theorem ggX6_home_X6_in : GoodIn wsX6_home wsX6_in := goodIn_r _ [11] (by decide +kernel) (by decide +kernel)
set_option maxRecDepth 20000 in
theorem gX6_home_X6_in : GoodIn wsX6_home (va_wsS RX6 87 yX6_in wsX6_in) := goodIn_app (goodIn_of _ (by decide +kernel)) ggX6_home_X6_in
theorem dX6_home_0 : decode cX6_home 0 = .ok (.iload_n 1, 1) := by decide +kernel
theorem dX6_home_1 : decode cX6_home 1 = .ok (.invokestatic 91, 3) := by decide +kernel
theorem dX6_home_4 : decode cX6_home 4 = .ok (.ifCond .eq 22, 3) := by decide +kernel
theorem dX6_home_7 : decode cX6_home 7 = .ok (.aload_n 0, 1) := by decide +kernel
theorem dX6_home_8 : decode cX6_home 8 = .ok (.getfield 13, 3) := by decide +kernel
theorem dX6_home_11 : decode cX6_home 11 = .ok (.iload_n 1, 1) := by decide +kernel
theorem dX6_home_12 : decode cX6_home 12 = .ok (.baload, 1) := by decide +kernel
theorem dX6_home_13 : decode cX6_home 13 = .ok (.ifCond .ne 13, 3) := by decide +kernel
theorem dX6_home_16 : decode cX6_home 16 = .ok (.iload_n 2, 1) := by decide +kernel
theorem dX6_home_17 : decode cX6_home 17 = .ok (.iconst 0, 1) := by decide +kernel
theorem dX6_home_18 : decode cX6_home 18 = .ok (.bipush 23, 2) := by decide +kernel
theorem dX6_home_20 : decode cX6_home 20 = .ok (.invokestatic 87, 3) := by decide +kernel
theorem dX6_home_23 : decode cX6_home 23 = .ok (.ifCond .ne 5, 3) := by decide +kernel
theorem dX6_home_26 : decode cX6_home 26 = .ok (.iconst (-1), 1) := by decide +kernel
theorem dX6_home_27 : decode cX6_home 27 = .ok (.ireturn, 1) := by decide +kernel
theorem dX6_home_28 : decode cX6_home 28 = .ok (.aload_n 0, 1) := by decide +kernel
theorem dX6_home_29 : decode cX6_home 29 = .ok (.getfield 113, 3) := by decide +kernel
theorem dX6_home_32 : decode cX6_home 32 = .ok (.ifCond .eq 6, 3) := by decide +kernel
theorem dX6_home_35 : decode cX6_home 35 = .ok (.bipush (-4), 2) := by decide +kernel
theorem dX6_home_37 : decode cX6_home 37 = .ok (.ireturn, 1) := by decide +kernel
theorem dX6_home_38 : decode cX6_home 38 = .ok (.aload_n 0, 1) := by decide +kernel
theorem dX6_home_39 : decode cX6_home 39 = .ok (.iload_n 1, 1) := by decide +kernel
theorem dX6_home_40 : decode cX6_home 40 = .ok (.putfield 136, 3) := by decide +kernel
theorem dX6_home_43 : decode cX6_home 43 = .ok (.aload_n 0, 1) := by decide +kernel
theorem dX6_home_44 : decode cX6_home 44 = .ok (.iload_n 2, 1) := by decide +kernel
theorem dX6_home_45 : decode cX6_home 45 = .ok (.putfield 119, 3) := by decide +kernel
theorem dX6_home_48 : decode cX6_home 48 = .ok (.iconst 1, 1) := by decide +kernel
theorem dX6_home_49 : decode cX6_home 49 = .ok (.ireturn, 1) := by decide +kernel
set_option maxRecDepth 20000 in
theorem ggX6_ask_X6_windAt : GoodIn wsX6_ask wsX6_windAt := goodIn_r _ [10, 11, 12, 13, 14, 9, 15, 16, 17, 18, 19, 20, 21, 22, 23, 24, 25, 26, 27, 28, 29, 30, 31, 32, 33, 34, 35, 36, 37, 38, 39, 40, 41, 42, 43, 44, 45, 46] (by decide +kernel) (by decide +kernel)
set_option maxRecDepth 20000 in
theorem gX6_ask_X6_windAt : GoodIn wsX6_ask (wsV RX6 139 RX6 yX6_windAt wsX6_windAt) := goodIn_app (goodIn_of _ (by decide +kernel)) ggX6_ask_X6_windAt
set_option maxRecDepth 20000 in
theorem ggX6_ask_X6_in : GoodIn wsX6_ask wsX6_in := goodIn_r _ [15] (by decide +kernel) (by decide +kernel)
set_option maxRecDepth 20000 in
theorem gX6_ask_X6_in : GoodIn wsX6_ask (va_wsS RX6 87 yX6_in wsX6_in) := goodIn_app (goodIn_of _ (by decide +kernel)) ggX6_ask_X6_in
theorem dX6_ask_0 : decode cX6_ask 0 = .ok (.aload_n 0, 1) := by decide +kernel
theorem dX6_ask_1 : decode cX6_ask 1 = .ok (.aload_n 0, 1) := by decide +kernel
theorem dX6_ask_2 : decode cX6_ask 2 = .ok (.getfield 29, 3) := by decide +kernel
theorem dX6_ask_5 : decode cX6_ask 5 = .ok (.iload_n 1, 1) := by decide +kernel
theorem dX6_ask_6 : decode cX6_ask 6 = .ok (.iaload, 1) := by decide +kernel
theorem dX6_ask_7 : decode cX6_ask 7 = .ok (.aload_n 0, 1) := by decide +kernel
theorem dX6_ask_8 : decode cX6_ask 8 = .ok (.getfield 113, 3) := by decide +kernel
theorem dX6_ask_11 : decode cX6_ask 11 = .ok (.invokevirtual 139, 3) := by decide +kernel
theorem dX6_ask_14 : decode cX6_ask 14 = .ok (.bipush 10, 2) := by decide +kernel
theorem dX6_ask_16 : decode cX6_ask 16 = .ok (.irem, 1) := by decide +kernel
theorem dX6_ask_17 : decode cX6_ask 17 = .ok (.istore_n 2, 1) := by decide +kernel
theorem dX6_ask_18 : decode cX6_ask 18 = .ok (.iconst 0, 1) := by decide +kernel
theorem dX6_ask_19 : decode cX6_ask 19 = .ok (.istore_n 3, 1) := by decide +kernel
theorem dX6_ask_20 : decode cX6_ask 20 = .ok (.iload_n 3, 1) := by decide +kernel
theorem dX6_ask_21 : decode cX6_ask 21 = .ok (.aload_n 0, 1) := by decide +kernel
theorem dX6_ask_22 : decode cX6_ask 22 = .ok (.getfield 50, 3) := by decide +kernel
theorem dX6_ask_25 : decode cX6_ask 25 = .ok (.iload_n 1, 1) := by decide +kernel
theorem dX6_ask_26 : decode cX6_ask 26 = .ok (.iaload, 1) := by decide +kernel
theorem dX6_ask_27 : decode cX6_ask 27 = .ok (.if_icmp .ge 113, 3) := by decide +kernel
theorem dX6_ask_30 : decode cX6_ask 30 = .ok (.bipush 120, 2) := by decide +kernel
theorem dX6_ask_32 : decode cX6_ask 32 = .ok (.iload_n 1, 1) := by decide +kernel
theorem dX6_ask_33 : decode cX6_ask 33 = .ok (.imul, 1) := by decide +kernel
theorem dX6_ask_34 : decode cX6_ask 34 = .ok (.bipush 6, 2) := by decide +kernel
theorem dX6_ask_36 : decode cX6_ask 36 = .ok (.iload_n 3, 1) := by decide +kernel
theorem dX6_ask_37 : decode cX6_ask 37 = .ok (.imul, 1) := by decide +kernel
theorem dX6_ask_38 : decode cX6_ask 38 = .ok (.iadd, 1) := by decide +kernel
theorem dX6_ask_39 : decode cX6_ask 39 = .ok (.istore 4, 2) := by decide +kernel
theorem dX6_ask_41 : decode cX6_ask 41 = .ok (.aload_n 0, 1) := by decide +kernel
theorem dX6_ask_42 : decode cX6_ask 42 = .ok (.getfield 29, 3) := by decide +kernel
theorem dX6_ask_45 : decode cX6_ask 45 = .ok (.iload_n 1, 1) := by decide +kernel
theorem dX6_ask_46 : decode cX6_ask 46 = .ok (.iaload, 1) := by decide +kernel
theorem dX6_ask_47 : decode cX6_ask 47 = .ok (.bipush 16, 2) := by decide +kernel
theorem dX6_ask_49 : decode cX6_ask 49 = .ok (.irem, 1) := by decide +kernel
theorem dX6_ask_50 : decode cX6_ask 50 = .ok (.aload_n 0, 1) := by decide +kernel
theorem dX6_ask_51 : decode cX6_ask 51 = .ok (.getfield 53, 3) := by decide +kernel
theorem dX6_ask_54 : decode cX6_ask 54 = .ok (.iload 4, 2) := by decide +kernel
theorem dX6_ask_56 : decode cX6_ask 56 = .ok (.iaload, 1) := by decide +kernel
theorem dX6_ask_57 : decode cX6_ask 57 = .ok (.aload_n 0, 1) := by decide +kernel
theorem dX6_ask_58 : decode cX6_ask 58 = .ok (.getfield 53, 3) := by decide +kernel
theorem dX6_ask_61 : decode cX6_ask 61 = .ok (.iload 4, 2) := by decide +kernel
theorem dX6_ask_63 : decode cX6_ask 63 = .ok (.iconst 1, 1) := by decide +kernel
theorem dX6_ask_64 : decode cX6_ask 64 = .ok (.iadd, 1) := by decide +kernel
theorem dX6_ask_65 : decode cX6_ask 65 = .ok (.iaload, 1) := by decide +kernel
theorem dX6_ask_66 : decode cX6_ask 66 = .ok (.invokestatic 87, 3) := by decide +kernel
theorem dX6_ask_69 : decode cX6_ask 69 = .ok (.ifCond .eq 65, 3) := by decide +kernel
theorem dX6_ask_72 : decode cX6_ask 72 = .ok (.aload_n 0, 1) := by decide +kernel
theorem dX6_ask_73 : decode cX6_ask 73 = .ok (.getfield 29, 3) := by decide +kernel
theorem dX6_ask_76 : decode cX6_ask 76 = .ok (.iload_n 1, 1) := by decide +kernel
theorem dX6_ask_77 : decode cX6_ask 77 = .ok (.iaload, 1) := by decide +kernel
theorem dX6_ask_78 : decode cX6_ask 78 = .ok (.bipush 16, 2) := by decide +kernel
theorem dX6_ask_80 : decode cX6_ask 80 = .ok (.idiv, 1) := by decide +kernel
theorem dX6_ask_81 : decode cX6_ask 81 = .ok (.aload_n 0, 1) := by decide +kernel
theorem dX6_ask_82 : decode cX6_ask 82 = .ok (.getfield 53, 3) := by decide +kernel
theorem dX6_ask_85 : decode cX6_ask 85 = .ok (.iload 4, 2) := by decide +kernel
theorem dX6_ask_87 : decode cX6_ask 87 = .ok (.iconst 2, 1) := by decide +kernel
theorem dX6_ask_88 : decode cX6_ask 88 = .ok (.iadd, 1) := by decide +kernel
theorem dX6_ask_89 : decode cX6_ask 89 = .ok (.iaload, 1) := by decide +kernel
theorem dX6_ask_90 : decode cX6_ask 90 = .ok (.aload_n 0, 1) := by decide +kernel
theorem dX6_ask_91 : decode cX6_ask 91 = .ok (.getfield 53, 3) := by decide +kernel
theorem dX6_ask_94 : decode cX6_ask 94 = .ok (.iload 4, 2) := by decide +kernel
theorem dX6_ask_96 : decode cX6_ask 96 = .ok (.iconst 3, 1) := by decide +kernel
theorem dX6_ask_97 : decode cX6_ask 97 = .ok (.iadd, 1) := by decide +kernel
theorem dX6_ask_98 : decode cX6_ask 98 = .ok (.iaload, 1) := by decide +kernel
theorem dX6_ask_99 : decode cX6_ask 99 = .ok (.invokestatic 87, 3) := by decide +kernel
theorem dX6_ask_102 : decode cX6_ask 102 = .ok (.ifCond .eq 32, 3) := by decide +kernel
theorem dX6_ask_105 : decode cX6_ask 105 = .ok (.iload_n 2, 1) := by decide +kernel
theorem dX6_ask_106 : decode cX6_ask 106 = .ok (.aload_n 0, 1) := by decide +kernel
theorem dX6_ask_107 : decode cX6_ask 107 = .ok (.getfield 53, 3) := by decide +kernel
theorem dX6_ask_110 : decode cX6_ask 110 = .ok (.iload 4, 2) := by decide +kernel
theorem dX6_ask_112 : decode cX6_ask 112 = .ok (.iconst 4, 1) := by decide +kernel
theorem dX6_ask_113 : decode cX6_ask 113 = .ok (.iadd, 1) := by decide +kernel
theorem dX6_ask_114 : decode cX6_ask 114 = .ok (.iaload, 1) := by decide +kernel
theorem dX6_ask_115 : decode cX6_ask 115 = .ok (.if_icmp .lt 19, 3) := by decide +kernel
theorem dX6_ask_118 : decode cX6_ask 118 = .ok (.aload_n 0, 1) := by decide +kernel
theorem dX6_ask_119 : decode cX6_ask 119 = .ok (.getfield 35, 3) := by decide +kernel
theorem dX6_ask_122 : decode cX6_ask 122 = .ok (.iload_n 1, 1) := by decide +kernel
theorem dX6_ask_123 : decode cX6_ask 123 = .ok (.aload_n 0, 1) := by decide +kernel
theorem dX6_ask_124 : decode cX6_ask 124 = .ok (.getfield 53, 3) := by decide +kernel
theorem dX6_ask_127 : decode cX6_ask 127 = .ok (.iload 4, 2) := by decide +kernel
theorem dX6_ask_129 : decode cX6_ask 129 = .ok (.iconst 5, 1) := by decide +kernel
theorem dX6_ask_130 : decode cX6_ask 130 = .ok (.iadd, 1) := by decide +kernel
theorem dX6_ask_131 : decode cX6_ask 131 = .ok (.iaload, 1) := by decide +kernel
theorem dX6_ask_132 : decode cX6_ask 132 = .ok (.iastore, 1) := by decide +kernel
theorem dX6_ask_133 : decode cX6_ask 133 = .ok (.return_, 1) := by decide +kernel
theorem dX6_ask_134 : decode cX6_ask 134 = .ok (.iinc 3 1, 3) := by decide +kernel
theorem dX6_ask_137 : decode cX6_ask 137 = .ok (.goto (-117), 3) := by decide +kernel
theorem dX6_ask_140 : decode cX6_ask 140 = .ok (.return_, 1) := by decide +kernel
set_option maxRecDepth 20000 in
theorem ggX6_go_X6_ask : GoodIn wsX6_go wsX6_ask := goodIn_r _ [12, 1, 2, 13, 14, 4, 15, 16, 17, 11, 18, 19, 20, 21, 22, 23, 38, 39, 40, 41, 42, 43, 44, 45, 46, 47, 48, 49, 50, 51, 52, 53, 54, 55, 56, 57, 58, 59, 60, 61, 62, 63, 64, 65, 66, 67, 68] (by decide +kernel) (by decide +kernel)
set_option maxRecDepth 20000 in
theorem gX6_go_X6_ask : GoodIn wsX6_go (wsV RX6 142 RX6 yX6_ask wsX6_ask) := goodIn_app (goodIn_of _ (by decide +kernel)) ggX6_go_X6_ask
set_option maxRecDepth 20000 in
theorem ggX6_go_X6_windAt : GoodIn wsX6_go wsX6_windAt := goodIn_r _ [18, 19, 20, 21, 22, 11, 23, 38, 39, 40, 41, 42, 43, 44, 45, 46, 47, 48, 49, 50, 51, 52, 53, 54, 55, 56, 57, 58, 59, 60, 61, 62, 63, 64, 65, 66, 67, 68] (by decide +kernel) (by decide +kernel)
set_option maxRecDepth 20000 in
theorem gX6_go_X6_windAt : GoodIn wsX6_go (wsV RX6 139 RX6 yX6_windAt wsX6_windAt) := goodIn_app (goodIn_of _ (by decide +kernel)) ggX6_go_X6_windAt
set_option maxRecDepth 20000 in
theorem ggX6_go_X6_speedOf : GoodIn wsX6_go wsX6_speedOf := goodIn_r _ [27, 28, 29, 38, 39, 40, 41, 42, 43, 44, 45, 46, 47, 48, 49, 50, 51, 52, 53, 54, 55, 56, 57, 58, 59, 60, 61, 62, 63, 64, 65, 66, 67, 68] (by decide +kernel) (by decide +kernel)
set_option maxRecDepth 20000 in
theorem gX6_go_X6_speedOf : GoodIn wsX6_go (wsV RX6 129 RX6 yX6_speedOf wsX6_speedOf) := goodIn_app (goodIn_of _ (by decide +kernel)) ggX6_go_X6_speedOf
set_option maxRecDepth 20000 in
theorem ggX6_go_X6_need : GoodIn wsX6_go wsX6_need := goodIn_r _ [32] (by decide +kernel) (by decide +kernel)
set_option maxRecDepth 20000 in
theorem gX6_go_X6_need : GoodIn wsX6_go (va_wsS RX6 146 yX6_need wsX6_need) := goodIn_app (goodIn_of _ (by decide +kernel)) ggX6_go_X6_need
set_option maxRecDepth 20000 in
theorem ggX6_go_X6_nextCell : GoodIn wsX6_go wsX6_nextCell := goodIn_r _ [36, 37, 21, 22, 11, 23, 38, 39, 40, 41, 42, 43, 44, 45, 46, 47, 48, 49, 50, 51, 52, 53, 54, 55, 56, 57, 58, 59, 60, 61, 62, 63, 64, 65, 66, 67, 68] (by decide +kernel) (by decide +kernel)
set_option maxRecDepth 20000 in
theorem gX6_go_X6_nextCell : GoodIn wsX6_go (wsV RX6 149 RX6 yX6_nextCell wsX6_nextCell) := goodIn_app (goodIn_of _ (by decide +kernel)) ggX6_go_X6_nextCell
theorem dX6_go_0 : decode cX6_go 0 = .ok (.aload_n 0, 1) := by decide +kernel
theorem dX6_go_1 : decode cX6_go 1 = .ok (.iload_n 1, 1) := by decide +kernel
theorem dX6_go_2 : decode cX6_go 2 = .ok (.invokevirtual 142, 3) := by decide +kernel
theorem dX6_go_5 : decode cX6_go 5 = .ok (.aload_n 0, 1) := by decide +kernel
theorem dX6_go_6 : decode cX6_go 6 = .ok (.aload_n 0, 1) := by decide +kernel
theorem dX6_go_7 : decode cX6_go 7 = .ok (.getfield 29, 3) := by decide +kernel
theorem dX6_go_10 : decode cX6_go 10 = .ok (.iload_n 1, 1) := by decide +kernel
theorem dX6_go_11 : decode cX6_go 11 = .ok (.iaload, 1) := by decide +kernel
theorem dX6_go_12 : decode cX6_go 12 = .ok (.aload_n 0, 1) := by decide +kernel
theorem dX6_go_13 : decode cX6_go 13 = .ok (.getfield 113, 3) := by decide +kernel
theorem dX6_go_16 : decode cX6_go 16 = .ok (.invokevirtual 139, 3) := by decide +kernel
theorem dX6_go_19 : decode cX6_go 19 = .ok (.istore_n 2, 1) := by decide +kernel
theorem dX6_go_20 : decode cX6_go 20 = .ok (.aload_n 0, 1) := by decide +kernel
theorem dX6_go_21 : decode cX6_go 21 = .ok (.getfield 32, 3) := by decide +kernel
theorem dX6_go_24 : decode cX6_go 24 = .ok (.iload_n 1, 1) := by decide +kernel
theorem dX6_go_25 : decode cX6_go 25 = .ok (.dup2, 1) := by decide +kernel
theorem dX6_go_26 : decode cX6_go 26 = .ok (.iaload, 1) := by decide +kernel
theorem dX6_go_27 : decode cX6_go 27 = .ok (.aload_n 0, 1) := by decide +kernel
theorem dX6_go_28 : decode cX6_go 28 = .ok (.iload_n 1, 1) := by decide +kernel
theorem dX6_go_29 : decode cX6_go 29 = .ok (.aload_n 0, 1) := by decide +kernel
theorem dX6_go_30 : decode cX6_go 30 = .ok (.getfield 35, 3) := by decide +kernel
theorem dX6_go_33 : decode cX6_go 33 = .ok (.iload_n 1, 1) := by decide +kernel
theorem dX6_go_34 : decode cX6_go 34 = .ok (.iaload, 1) := by decide +kernel
theorem dX6_go_35 : decode cX6_go 35 = .ok (.iload_n 2, 1) := by decide +kernel
theorem dX6_go_36 : decode cX6_go 36 = .ok (.bipush 10, 2) := by decide +kernel
theorem dX6_go_38 : decode cX6_go 38 = .ok (.idiv, 1) := by decide +kernel
theorem dX6_go_39 : decode cX6_go 39 = .ok (.iload_n 2, 1) := by decide +kernel
theorem dX6_go_40 : decode cX6_go 40 = .ok (.bipush 10, 2) := by decide +kernel
theorem dX6_go_42 : decode cX6_go 42 = .ok (.irem, 1) := by decide +kernel
theorem dX6_go_43 : decode cX6_go 43 = .ok (.invokevirtual 129, 3) := by decide +kernel
theorem dX6_go_46 : decode cX6_go 46 = .ok (.iadd, 1) := by decide +kernel
theorem dX6_go_47 : decode cX6_go 47 = .ok (.iastore, 1) := by decide +kernel
theorem dX6_go_48 : decode cX6_go 48 = .ok (.aload_n 0, 1) := by decide +kernel
theorem dX6_go_49 : decode cX6_go 49 = .ok (.getfield 38, 3) := by decide +kernel
theorem dX6_go_52 : decode cX6_go 52 = .ok (.iload_n 1, 1) := by decide +kernel
theorem dX6_go_53 : decode cX6_go 53 = .ok (.iaload, 1) := by decide +kernel
theorem dX6_go_54 : decode cX6_go 54 = .ok (.bipush (-9), 2) := by decide +kernel
theorem dX6_go_56 : decode cX6_go 56 = .ok (.if_icmp .ne 116, 3) := by decide +kernel
theorem dX6_go_59 : decode cX6_go 59 = .ok (.aload_n 0, 1) := by decide +kernel
theorem dX6_go_60 : decode cX6_go 60 = .ok (.getfield 32, 3) := by decide +kernel
theorem dX6_go_63 : decode cX6_go 63 = .ok (.iload_n 1, 1) := by decide +kernel
theorem dX6_go_64 : decode cX6_go 64 = .ok (.iaload, 1) := by decide +kernel
theorem dX6_go_65 : decode cX6_go 65 = .ok (.aload_n 0, 1) := by decide +kernel
theorem dX6_go_66 : decode cX6_go 66 = .ok (.getfield 35, 3) := by decide +kernel
theorem dX6_go_69 : decode cX6_go 69 = .ok (.iload_n 1, 1) := by decide +kernel
theorem dX6_go_70 : decode cX6_go 70 = .ok (.iaload, 1) := by decide +kernel
theorem dX6_go_71 : decode cX6_go 71 = .ok (.invokestatic 146, 3) := by decide +kernel
theorem dX6_go_74 : decode cX6_go 74 = .ok (.if_icmp .lt 98, 3) := by decide +kernel
theorem dX6_go_77 : decode cX6_go 77 = .ok (.aload_n 0, 1) := by decide +kernel
theorem dX6_go_78 : decode cX6_go 78 = .ok (.aload_n 0, 1) := by decide +kernel
theorem dX6_go_79 : decode cX6_go 79 = .ok (.getfield 29, 3) := by decide +kernel
theorem dX6_go_82 : decode cX6_go 82 = .ok (.iload_n 1, 1) := by decide +kernel
theorem dX6_go_83 : decode cX6_go 83 = .ok (.iaload, 1) := by decide +kernel
theorem dX6_go_84 : decode cX6_go 84 = .ok (.aload_n 0, 1) := by decide +kernel
theorem dX6_go_85 : decode cX6_go 85 = .ok (.getfield 35, 3) := by decide +kernel
theorem dX6_go_88 : decode cX6_go 88 = .ok (.iload_n 1, 1) := by decide +kernel
theorem dX6_go_89 : decode cX6_go 89 = .ok (.iaload, 1) := by decide +kernel
theorem dX6_go_90 : decode cX6_go 90 = .ok (.invokevirtual 149, 3) := by decide +kernel
theorem dX6_go_93 : decode cX6_go 93 = .ok (.istore_n 3, 1) := by decide +kernel
theorem dX6_go_94 : decode cX6_go 94 = .ok (.iload_n 3, 1) := by decide +kernel
theorem dX6_go_95 : decode cX6_go 95 = .ok (.bipush (-9), 2) := by decide +kernel
theorem dX6_go_97 : decode cX6_go 97 = .ok (.if_icmp .ne 11, 3) := by decide +kernel
theorem dX6_go_100 : decode cX6_go 100 = .ok (.aload_n 0, 1) := by decide +kernel
theorem dX6_go_101 : decode cX6_go 101 = .ok (.getfield 32, 3) := by decide +kernel
theorem dX6_go_104 : decode cX6_go 104 = .ok (.iload_n 1, 1) := by decide +kernel
theorem dX6_go_105 : decode cX6_go 105 = .ok (.iconst 0, 1) := by decide +kernel
theorem dX6_go_106 : decode cX6_go 106 = .ok (.iastore, 1) := by decide +kernel
theorem dX6_go_107 : decode cX6_go 107 = .ok (.return_, 1) := by decide +kernel
theorem dX6_go_108 : decode cX6_go 108 = .ok (.aload_n 0, 1) := by decide +kernel
theorem dX6_go_109 : decode cX6_go 109 = .ok (.getfield 32, 3) := by decide +kernel
theorem dX6_go_112 : decode cX6_go 112 = .ok (.iload_n 1, 1) := by decide +kernel
theorem dX6_go_113 : decode cX6_go 113 = .ok (.dup2, 1) := by decide +kernel
theorem dX6_go_114 : decode cX6_go 114 = .ok (.iaload, 1) := by decide +kernel
theorem dX6_go_115 : decode cX6_go 115 = .ok (.aload_n 0, 1) := by decide +kernel
theorem dX6_go_116 : decode cX6_go 116 = .ok (.getfield 35, 3) := by decide +kernel
theorem dX6_go_119 : decode cX6_go 119 = .ok (.iload_n 1, 1) := by decide +kernel
theorem dX6_go_120 : decode cX6_go 120 = .ok (.iaload, 1) := by decide +kernel
theorem dX6_go_121 : decode cX6_go 121 = .ok (.invokestatic 146, 3) := by decide +kernel
theorem dX6_go_124 : decode cX6_go 124 = .ok (.isub, 1) := by decide +kernel
theorem dX6_go_125 : decode cX6_go 125 = .ok (.iastore, 1) := by decide +kernel
theorem dX6_go_126 : decode cX6_go 126 = .ok (.aload_n 0, 1) := by decide +kernel
theorem dX6_go_127 : decode cX6_go 127 = .ok (.getfield 29, 3) := by decide +kernel
theorem dX6_go_130 : decode cX6_go 130 = .ok (.iload_n 1, 1) := by decide +kernel
theorem dX6_go_131 : decode cX6_go 131 = .ok (.iload_n 3, 1) := by decide +kernel
theorem dX6_go_132 : decode cX6_go 132 = .ok (.iastore, 1) := by decide +kernel
theorem dX6_go_133 : decode cX6_go 133 = .ok (.aload_n 0, 1) := by decide +kernel
theorem dX6_go_134 : decode cX6_go 134 = .ok (.getfield 47, 3) := by decide +kernel
theorem dX6_go_137 : decode cX6_go 137 = .ok (.iload_n 1, 1) := by decide +kernel
theorem dX6_go_138 : decode cX6_go 138 = .ok (.dup2, 1) := by decide +kernel
theorem dX6_go_139 : decode cX6_go 139 = .ok (.iaload, 1) := by decide +kernel
theorem dX6_go_140 : decode cX6_go 140 = .ok (.iconst 1, 1) := by decide +kernel
theorem dX6_go_141 : decode cX6_go 141 = .ok (.iadd, 1) := by decide +kernel
theorem dX6_go_142 : decode cX6_go 142 = .ok (.iastore, 1) := by decide +kernel
theorem dX6_go_143 : decode cX6_go 143 = .ok (.iload_n 3, 1) := by decide +kernel
theorem dX6_go_144 : decode cX6_go 144 = .ok (.aload_n 0, 1) := by decide +kernel
theorem dX6_go_145 : decode cX6_go 145 = .ok (.getfield 136, 3) := by decide +kernel
theorem dX6_go_148 : decode cX6_go 148 = .ok (.if_icmp .ne 16, 3) := by decide +kernel
theorem dX6_go_151 : decode cX6_go 151 = .ok (.aload_n 0, 1) := by decide +kernel
theorem dX6_go_152 : decode cX6_go 152 = .ok (.getfield 38, 3) := by decide +kernel
theorem dX6_go_155 : decode cX6_go 155 = .ok (.iload_n 1, 1) := by decide +kernel
theorem dX6_go_156 : decode cX6_go 156 = .ok (.aload_n 0, 1) := by decide +kernel
theorem dX6_go_157 : decode cX6_go 157 = .ok (.getfield 113, 3) := by decide +kernel
theorem dX6_go_160 : decode cX6_go 160 = .ok (.iastore, 1) := by decide +kernel
theorem dX6_go_161 : decode cX6_go 161 = .ok (.goto 8, 3) := by decide +kernel
theorem dX6_go_164 : decode cX6_go 164 = .ok (.aload_n 0, 1) := by decide +kernel
theorem dX6_go_165 : decode cX6_go 165 = .ok (.iload_n 1, 1) := by decide +kernel
theorem dX6_go_166 : decode cX6_go 166 = .ok (.invokevirtual 142, 3) := by decide +kernel
theorem dX6_go_169 : decode cX6_go 169 = .ok (.goto (-121), 3) := by decide +kernel
theorem dX6_go_172 : decode cX6_go 172 = .ok (.return_, 1) := by decide +kernel
theorem dX6_atHome_0 : decode cX6_atHome 0 = .ok (.iconst 0, 1) := by decide +kernel
theorem dX6_atHome_1 : decode cX6_atHome 1 = .ok (.istore_n 1, 1) := by decide +kernel
theorem dX6_atHome_2 : decode cX6_atHome 2 = .ok (.iconst 0, 1) := by decide +kernel
theorem dX6_atHome_3 : decode cX6_atHome 3 = .ok (.istore_n 2, 1) := by decide +kernel
theorem dX6_atHome_4 : decode cX6_atHome 4 = .ok (.iload_n 2, 1) := by decide +kernel
theorem dX6_atHome_5 : decode cX6_atHome 5 = .ok (.aload_n 0, 1) := by decide +kernel
theorem dX6_atHome_6 : decode cX6_atHome 6 = .ok (.getfield 110, 3) := by decide +kernel
theorem dX6_atHome_9 : decode cX6_atHome 9 = .ok (.if_icmp .ge 28, 3) := by decide +kernel
theorem dX6_atHome_12 : decode cX6_atHome 12 = .ok (.iload_n 1, 1) := by decide +kernel
theorem dX6_atHome_13 : decode cX6_atHome 13 = .ok (.aload_n 0, 1) := by decide +kernel
theorem dX6_atHome_14 : decode cX6_atHome 14 = .ok (.getfield 38, 3) := by decide +kernel
theorem dX6_atHome_17 : decode cX6_atHome 17 = .ok (.iload_n 2, 1) := by decide +kernel
theorem dX6_atHome_18 : decode cX6_atHome 18 = .ok (.iaload, 1) := by decide +kernel
theorem dX6_atHome_19 : decode cX6_atHome 19 = .ok (.bipush (-9), 2) := by decide +kernel
theorem dX6_atHome_21 : decode cX6_atHome 21 = .ok (.if_icmp .eq 7, 3) := by decide +kernel
theorem dX6_atHome_24 : decode cX6_atHome 24 = .ok (.iconst 1, 1) := by decide +kernel
theorem dX6_atHome_25 : decode cX6_atHome 25 = .ok (.goto 4, 3) := by decide +kernel
theorem dX6_atHome_28 : decode cX6_atHome 28 = .ok (.iconst 0, 1) := by decide +kernel
theorem dX6_atHome_29 : decode cX6_atHome 29 = .ok (.iadd, 1) := by decide +kernel
theorem dX6_atHome_30 : decode cX6_atHome 30 = .ok (.istore_n 1, 1) := by decide +kernel
theorem dX6_atHome_31 : decode cX6_atHome 31 = .ok (.iinc 2 1, 3) := by decide +kernel
theorem dX6_atHome_34 : decode cX6_atHome 34 = .ok (.goto (-30), 3) := by decide +kernel
theorem dX6_atHome_37 : decode cX6_atHome 37 = .ok (.iload_n 1, 1) := by decide +kernel
theorem dX6_atHome_38 : decode cX6_atHome 38 = .ok (.ireturn, 1) := by decide +kernel
set_option maxRecDepth 20000 in
theorem ggX6_run_X6_in : GoodIn wsX6_run wsX6_in := goodIn_r _ [8] (by decide +kernel) (by decide +kernel)
set_option maxRecDepth 20000 in
theorem gX6_run_X6_in : GoodIn wsX6_run (va_wsS RX6 87 yX6_in wsX6_in) := goodIn_app (goodIn_of _ (by decide +kernel)) ggX6_run_X6_in
set_option maxRecDepth 20000 in
theorem ggX6_run_X6_atHome : GoodIn wsX6_run wsX6_atHome := goodIn_r _ [12, 3, 4, 48, 49, 50, 51, 52, 53, 54, 55, 56, 57, 58, 59, 60, 61, 62, 63, 64, 65, 66, 67, 68, 69, 70, 71, 72, 73, 74, 75, 76, 77, 78] (by decide +kernel) (by decide +kernel)
set_option maxRecDepth 20000 in
theorem gX6_run_X6_atHome : GoodIn wsX6_run (wsV RX6 153 RX6 yX6_atHome wsX6_atHome) := goodIn_app (goodIn_of _ (by decide +kernel)) ggX6_run_X6_atHome
set_option maxRecDepth 20000 in
theorem ggX6_run_X6_go : GoodIn wsX6_run wsX6_go := goodIn_r _ [16, 17, 1, 18, 19, 4, 20, 21, 22, 23, 24, 7, 25, 26, 27, 28, 29, 30, 31, 32, 33, 5, 6, 8, 34, 35, 36, 37, 38, 39, 40, 41, 42, 43, 44, 45, 46, 47, 48, 49, 50, 51, 52, 53, 54, 55, 56, 57, 58, 59, 60, 61, 62, 63, 64, 65, 66, 67, 68, 69, 70, 71, 72, 73, 74, 75, 76, 77, 78] (by decide +kernel) (by decide +kernel)
set_option maxRecDepth 20000 in
theorem gX6_run_X6_go : GoodIn wsX6_run (wsV RX6 157 RX6 yX6_go wsX6_go) := goodIn_app (goodIn_of _ (by decide +kernel)) ggX6_run_X6_go
theorem dX6_run_0 : decode cX6_run 0 = .ok (.iload_n 1, 1) := by decide +kernel
theorem dX6_run_1 : decode cX6_run 1 = .ok (.iconst 0, 1) := by decide +kernel
theorem dX6_run_2 : decode cX6_run 2 = .ok (.sipush 2000, 3) := by decide +kernel
theorem dX6_run_5 : decode cX6_run 5 = .ok (.invokestatic 87, 3) := by decide +kernel
theorem dX6_run_8 : decode cX6_run 8 = .ok (.ifCond .ne 5, 3) := by decide +kernel
theorem dX6_run_11 : decode cX6_run 11 = .ok (.iconst (-1), 1) := by decide +kernel
theorem dX6_run_12 : decode cX6_run 12 = .ok (.ireturn, 1) := by decide +kernel
theorem dX6_run_13 : decode cX6_run 13 = .ok (.aload_n 0, 1) := by decide +kernel
theorem dX6_run_14 : decode cX6_run 14 = .ok (.getfield 113, 3) := by decide +kernel
theorem dX6_run_17 : decode cX6_run 17 = .ok (.iload_n 1, 1) := by decide +kernel
theorem dX6_run_18 : decode cX6_run 18 = .ok (.iadd, 1) := by decide +kernel
theorem dX6_run_19 : decode cX6_run 19 = .ok (.ldc 152, 2) := by decide +kernel
theorem dX6_run_21 : decode cX6_run 21 = .ok (.if_icmp .le 6, 3) := by decide +kernel
theorem dX6_run_24 : decode cX6_run 24 = .ok (.bipush (-2), 2) := by decide +kernel
theorem dX6_run_26 : decode cX6_run 26 = .ok (.ireturn, 1) := by decide +kernel
theorem dX6_run_27 : decode cX6_run 27 = .ok (.aload_n 0, 1) := by decide +kernel
theorem dX6_run_28 : decode cX6_run 28 = .ok (.invokevirtual 153, 3) := by decide +kernel
theorem dX6_run_31 : decode cX6_run 31 = .ok (.istore_n 2, 1) := by decide +kernel
theorem dX6_run_32 : decode cX6_run 32 = .ok (.iconst 0, 1) := by decide +kernel
theorem dX6_run_33 : decode cX6_run 33 = .ok (.istore_n 3, 1) := by decide +kernel
theorem dX6_run_34 : decode cX6_run 34 = .ok (.iload_n 3, 1) := by decide +kernel
theorem dX6_run_35 : decode cX6_run 35 = .ok (.iload_n 1, 1) := by decide +kernel
theorem dX6_run_36 : decode cX6_run 36 = .ok (.if_icmp .ge 55, 3) := by decide +kernel
theorem dX6_run_39 : decode cX6_run 39 = .ok (.iconst 0, 1) := by decide +kernel
theorem dX6_run_40 : decode cX6_run 40 = .ok (.istore 4, 2) := by decide +kernel
theorem dX6_run_42 : decode cX6_run 42 = .ok (.iload 4, 2) := by decide +kernel
theorem dX6_run_44 : decode cX6_run 44 = .ok (.aload_n 0, 1) := by decide +kernel
theorem dX6_run_45 : decode cX6_run 45 = .ok (.getfield 110, 3) := by decide +kernel
theorem dX6_run_48 : decode cX6_run 48 = .ok (.if_icmp .ge 27, 3) := by decide +kernel
theorem dX6_run_51 : decode cX6_run 51 = .ok (.aload_n 0, 1) := by decide +kernel
theorem dX6_run_52 : decode cX6_run 52 = .ok (.getfield 38, 3) := by decide +kernel
theorem dX6_run_55 : decode cX6_run 55 = .ok (.iload 4, 2) := by decide +kernel
theorem dX6_run_57 : decode cX6_run 57 = .ok (.iaload, 1) := by decide +kernel
theorem dX6_run_58 : decode cX6_run 58 = .ok (.bipush (-9), 2) := by decide +kernel
theorem dX6_run_60 : decode cX6_run 60 = .ok (.if_icmp .ne 9, 3) := by decide +kernel
theorem dX6_run_63 : decode cX6_run 63 = .ok (.aload_n 0, 1) := by decide +kernel
theorem dX6_run_64 : decode cX6_run 64 = .ok (.iload 4, 2) := by decide +kernel
theorem dX6_run_66 : decode cX6_run 66 = .ok (.invokevirtual 157, 3) := by decide +kernel
theorem dX6_run_69 : decode cX6_run 69 = .ok (.iinc 4 1, 3) := by decide +kernel
theorem dX6_run_72 : decode cX6_run 72 = .ok (.goto (-30), 3) := by decide +kernel
theorem dX6_run_75 : decode cX6_run 75 = .ok (.aload_n 0, 1) := by decide +kernel
theorem dX6_run_76 : decode cX6_run 76 = .ok (.dup, 1) := by decide +kernel
theorem dX6_run_77 : decode cX6_run 77 = .ok (.getfield 113, 3) := by decide +kernel
theorem dX6_run_80 : decode cX6_run 80 = .ok (.iconst 1, 1) := by decide +kernel
theorem dX6_run_81 : decode cX6_run 81 = .ok (.iadd, 1) := by decide +kernel
theorem dX6_run_82 : decode cX6_run 82 = .ok (.putfield 113, 3) := by decide +kernel
theorem dX6_run_85 : decode cX6_run 85 = .ok (.iinc 3 1, 3) := by decide +kernel
theorem dX6_run_88 : decode cX6_run 88 = .ok (.goto (-54), 3) := by decide +kernel
theorem dX6_run_91 : decode cX6_run 91 = .ok (.aload_n 0, 1) := by decide +kernel
theorem dX6_run_92 : decode cX6_run 92 = .ok (.invokevirtual 153, 3) := by decide +kernel
theorem dX6_run_95 : decode cX6_run 95 = .ok (.iload_n 2, 1) := by decide +kernel
theorem dX6_run_96 : decode cX6_run 96 = .ok (.isub, 1) := by decide +kernel
theorem dX6_run_97 : decode cX6_run 97 = .ok (.ireturn, 1) := by decide +kernel
set_option maxRecDepth 20000 in
theorem ggX6_firstShip_X6_entryOf : GoodIn wsX6_firstShip wsX6_entryOf := goodIn_r _ [7, 2, 8, 9, 10, 11, 12, 13, 14, 15, 16, 17, 18, 19, 20, 21, 22, 23, 24, 25, 26, 27, 28, 29, 30, 31, 32, 33, 34, 35, 36, 37, 38, 39] (by decide +kernel) (by decide +kernel)
set_option maxRecDepth 20000 in
theorem gX6_firstShip_X6_entryOf : GoodIn wsX6_firstShip (wsV RX6 122 RX6 yX6_entryOf wsX6_entryOf) := goodIn_app (goodIn_of _ (by decide +kernel)) ggX6_firstShip_X6_entryOf
theorem dX6_firstShip_0 : decode cX6_firstShip 0 = .ok (.bipush (-9), 2) := by decide +kernel
theorem dX6_firstShip_2 : decode cX6_firstShip 2 = .ok (.istore_n 1, 1) := by decide +kernel
theorem dX6_firstShip_3 : decode cX6_firstShip 3 = .ok (.iconst 0, 1) := by decide +kernel
theorem dX6_firstShip_4 : decode cX6_firstShip 4 = .ok (.istore_n 2, 1) := by decide +kernel
theorem dX6_firstShip_5 : decode cX6_firstShip 5 = .ok (.iload_n 2, 1) := by decide +kernel
theorem dX6_firstShip_6 : decode cX6_firstShip 6 = .ok (.aload_n 0, 1) := by decide +kernel
theorem dX6_firstShip_7 : decode cX6_firstShip 7 = .ok (.getfield 110, 3) := by decide +kernel
theorem dX6_firstShip_10 : decode cX6_firstShip 10 = .ok (.if_icmp .ge 69, 3) := by decide +kernel
theorem dX6_firstShip_13 : decode cX6_firstShip 13 = .ok (.aload_n 0, 1) := by decide +kernel
theorem dX6_firstShip_14 : decode cX6_firstShip 14 = .ok (.getfield 38, 3) := by decide +kernel
theorem dX6_firstShip_17 : decode cX6_firstShip 17 = .ok (.iload_n 2, 1) := by decide +kernel
theorem dX6_firstShip_18 : decode cX6_firstShip 18 = .ok (.iaload, 1) := by decide +kernel
theorem dX6_firstShip_19 : decode cX6_firstShip 19 = .ok (.bipush (-9), 2) := by decide +kernel
theorem dX6_firstShip_21 : decode cX6_firstShip 21 = .ok (.if_icmp .eq 52, 3) := by decide +kernel
theorem dX6_firstShip_24 : decode cX6_firstShip 24 = .ok (.iload_n 1, 1) := by decide +kernel
theorem dX6_firstShip_25 : decode cX6_firstShip 25 = .ok (.ifCond .ge 7, 3) := by decide +kernel
theorem dX6_firstShip_28 : decode cX6_firstShip 28 = .ok (.iconst (-1), 1) := by decide +kernel
theorem dX6_firstShip_29 : decode cX6_firstShip 29 = .ok (.goto 14, 3) := by decide +kernel
theorem dX6_firstShip_32 : decode cX6_firstShip 32 = .ok (.aload_n 0, 1) := by decide +kernel
theorem dX6_firstShip_33 : decode cX6_firstShip 33 = .ok (.iload_n 2, 1) := by decide +kernel
theorem dX6_firstShip_34 : decode cX6_firstShip 34 = .ok (.invokevirtual 122, 3) := by decide +kernel
theorem dX6_firstShip_37 : decode cX6_firstShip 37 = .ok (.aload_n 0, 1) := by decide +kernel
theorem dX6_firstShip_38 : decode cX6_firstShip 38 = .ok (.iload_n 1, 1) := by decide +kernel
theorem dX6_firstShip_39 : decode cX6_firstShip 39 = .ok (.invokevirtual 122, 3) := by decide +kernel
theorem dX6_firstShip_42 : decode cX6_firstShip 42 = .ok (.isub, 1) := by decide +kernel
theorem dX6_firstShip_43 : decode cX6_firstShip 43 = .ok (.istore_n 3, 1) := by decide +kernel
theorem dX6_firstShip_44 : decode cX6_firstShip 44 = .ok (.iload_n 3, 1) := by decide +kernel
theorem dX6_firstShip_45 : decode cX6_firstShip 45 = .ok (.ifCond .lt 22, 3) := by decide +kernel
theorem dX6_firstShip_48 : decode cX6_firstShip 48 = .ok (.iload_n 3, 1) := by decide +kernel
theorem dX6_firstShip_49 : decode cX6_firstShip 49 = .ok (.ifCond .ne 22, 3) := by decide +kernel
theorem dX6_firstShip_52 : decode cX6_firstShip 52 = .ok (.aload_n 0, 1) := by decide +kernel
theorem dX6_firstShip_53 : decode cX6_firstShip 53 = .ok (.getfield 38, 3) := by decide +kernel
theorem dX6_firstShip_56 : decode cX6_firstShip 56 = .ok (.iload_n 2, 1) := by decide +kernel
theorem dX6_firstShip_57 : decode cX6_firstShip 57 = .ok (.iaload, 1) := by decide +kernel
theorem dX6_firstShip_58 : decode cX6_firstShip 58 = .ok (.aload_n 0, 1) := by decide +kernel
theorem dX6_firstShip_59 : decode cX6_firstShip 59 = .ok (.getfield 38, 3) := by decide +kernel
theorem dX6_firstShip_62 : decode cX6_firstShip 62 = .ok (.iload_n 1, 1) := by decide +kernel
theorem dX6_firstShip_63 : decode cX6_firstShip 63 = .ok (.iaload, 1) := by decide +kernel
theorem dX6_firstShip_64 : decode cX6_firstShip 64 = .ok (.if_icmp .ge 7, 3) := by decide +kernel
theorem dX6_firstShip_67 : decode cX6_firstShip 67 = .ok (.iload_n 2, 1) := by decide +kernel
theorem dX6_firstShip_68 : decode cX6_firstShip 68 = .ok (.goto 4, 3) := by decide +kernel
theorem dX6_firstShip_71 : decode cX6_firstShip 71 = .ok (.iload_n 1, 1) := by decide +kernel
theorem dX6_firstShip_72 : decode cX6_firstShip 72 = .ok (.istore_n 1, 1) := by decide +kernel
theorem dX6_firstShip_73 : decode cX6_firstShip 73 = .ok (.iinc 2 1, 3) := by decide +kernel
theorem dX6_firstShip_76 : decode cX6_firstShip 76 = .ok (.goto (-71), 3) := by decide +kernel
theorem dX6_firstShip_79 : decode cX6_firstShip 79 = .ok (.iload_n 1, 1) := by decide +kernel
theorem dX6_firstShip_80 : decode cX6_firstShip 80 = .ok (.ireturn, 1) := by decide +kernel
set_option maxRecDepth 20000 in
theorem ggX6_first_X6_firstShip : GoodIn wsX6_first wsX6_firstShip := goodIn_r _ [5, 6, 7, 8, 9, 10, 4, 11, 12, 13, 14, 15, 16, 17, 18, 19, 20, 21, 22, 23, 24, 25, 26, 27, 28, 29, 30, 31, 32, 33, 34, 35, 36, 37, 38, 39, 40, 41, 42, 43] (by decide +kernel) (by decide +kernel)
set_option maxRecDepth 20000 in
theorem gX6_first_X6_firstShip : GoodIn wsX6_first (wsV RX6 160 RX6 yX6_firstShip wsX6_firstShip) := goodIn_app (goodIn_of _ (by decide +kernel)) ggX6_first_X6_firstShip
theorem dX6_first_0 : decode cX6_first 0 = .ok (.aload_n 0, 1) := by decide +kernel
theorem dX6_first_1 : decode cX6_first 1 = .ok (.invokevirtual 160, 3) := by decide +kernel
theorem dX6_first_4 : decode cX6_first 4 = .ok (.ireturn, 1) := by decide +kernel
set_option maxRecDepth 20000 in
theorem ggX6_crossing_X6_need : GoodIn wsX6_crossing wsX6_need := goodIn_r _ [4] (by decide +kernel) (by decide +kernel)
set_option maxRecDepth 20000 in
theorem gX6_crossing_X6_need : GoodIn wsX6_crossing (va_wsS RX6 146 yX6_need wsX6_need) := goodIn_app (goodIn_of _ (by decide +kernel)) ggX6_crossing_X6_need
set_option maxRecDepth 20000 in
theorem ggX6_crossing_X6_windAt : GoodIn wsX6_crossing wsX6_windAt := goodIn_r _ [8, 9, 10, 11, 12, 3, 13, 20, 21, 22, 23, 24, 25, 26, 27, 28, 29, 30, 31, 32, 33, 34, 35, 36, 37, 38, 39, 40, 41, 42, 43, 44, 45, 46, 47, 48, 49, 50] (by decide +kernel) (by decide +kernel)
set_option maxRecDepth 20000 in
theorem gX6_crossing_X6_windAt : GoodIn wsX6_crossing (wsV RX6 139 RX6 yX6_windAt wsX6_windAt) := goodIn_app (goodIn_of _ (by decide +kernel)) ggX6_crossing_X6_windAt
set_option maxRecDepth 20000 in
theorem ggX6_crossing_X6_speedOf : GoodIn wsX6_crossing wsX6_speedOf := goodIn_r _ [17, 18, 19, 20, 21, 22, 23, 24, 25, 26, 27, 28, 29, 30, 31, 32, 33, 34, 35, 36, 37, 38, 39, 40, 41, 42, 43, 44, 45, 46, 47, 48, 49, 50] (by decide +kernel) (by decide +kernel)
set_option maxRecDepth 20000 in
theorem gX6_crossing_X6_speedOf : GoodIn wsX6_crossing (wsV RX6 129 RX6 yX6_speedOf wsX6_speedOf) := goodIn_app (goodIn_of _ (by decide +kernel)) ggX6_crossing_X6_speedOf
theorem dX6_crossing_0 : decode cX6_crossing 0 = .ok (.iconst 0, 1) := by decide +kernel
theorem dX6_crossing_1 : decode cX6_crossing 1 = .ok (.istore 6, 2) := by decide +kernel
theorem dX6_crossing_3 : decode cX6_crossing 3 = .ok (.iconst 0, 1) := by decide +kernel
theorem dX6_crossing_4 : decode cX6_crossing 4 = .ok (.istore 7, 2) := by decide +kernel
theorem dX6_crossing_6 : decode cX6_crossing 6 = .ok (.iload 6, 2) := by decide +kernel
theorem dX6_crossing_8 : decode cX6_crossing 8 = .ok (.iload_n 3, 1) := by decide +kernel
theorem dX6_crossing_9 : decode cX6_crossing 9 = .ok (.invokestatic 146, 3) := by decide +kernel
theorem dX6_crossing_12 : decode cX6_crossing 12 = .ok (.if_icmp .ge 49, 3) := by decide +kernel
theorem dX6_crossing_15 : decode cX6_crossing 15 = .ok (.iload 7, 2) := by decide +kernel
theorem dX6_crossing_17 : decode cX6_crossing 17 = .ok (.iload 5, 2) := by decide +kernel
theorem dX6_crossing_19 : decode cX6_crossing 19 = .ok (.if_icmp .gt 42, 3) := by decide +kernel
theorem dX6_crossing_22 : decode cX6_crossing 22 = .ok (.aload_n 0, 1) := by decide +kernel
theorem dX6_crossing_23 : decode cX6_crossing 23 = .ok (.iload_n 2, 1) := by decide +kernel
theorem dX6_crossing_24 : decode cX6_crossing 24 = .ok (.iload 4, 2) := by decide +kernel
theorem dX6_crossing_26 : decode cX6_crossing 26 = .ok (.iload 7, 2) := by decide +kernel
theorem dX6_crossing_28 : decode cX6_crossing 28 = .ok (.iadd, 1) := by decide +kernel
theorem dX6_crossing_29 : decode cX6_crossing 29 = .ok (.invokevirtual 139, 3) := by decide +kernel
theorem dX6_crossing_32 : decode cX6_crossing 32 = .ok (.istore 8, 2) := by decide +kernel
theorem dX6_crossing_34 : decode cX6_crossing 34 = .ok (.iload 6, 2) := by decide +kernel
theorem dX6_crossing_36 : decode cX6_crossing 36 = .ok (.aload_n 0, 1) := by decide +kernel
theorem dX6_crossing_37 : decode cX6_crossing 37 = .ok (.iload_n 1, 1) := by decide +kernel
theorem dX6_crossing_38 : decode cX6_crossing 38 = .ok (.iload_n 3, 1) := by decide +kernel
theorem dX6_crossing_39 : decode cX6_crossing 39 = .ok (.iload 8, 2) := by decide +kernel
theorem dX6_crossing_41 : decode cX6_crossing 41 = .ok (.bipush 10, 2) := by decide +kernel
theorem dX6_crossing_43 : decode cX6_crossing 43 = .ok (.idiv, 1) := by decide +kernel
theorem dX6_crossing_44 : decode cX6_crossing 44 = .ok (.iload 8, 2) := by decide +kernel
theorem dX6_crossing_46 : decode cX6_crossing 46 = .ok (.bipush 10, 2) := by decide +kernel
theorem dX6_crossing_48 : decode cX6_crossing 48 = .ok (.irem, 1) := by decide +kernel
theorem dX6_crossing_49 : decode cX6_crossing 49 = .ok (.invokevirtual 129, 3) := by decide +kernel
theorem dX6_crossing_52 : decode cX6_crossing 52 = .ok (.iadd, 1) := by decide +kernel
theorem dX6_crossing_53 : decode cX6_crossing 53 = .ok (.istore 6, 2) := by decide +kernel
theorem dX6_crossing_55 : decode cX6_crossing 55 = .ok (.iinc 7 1, 3) := by decide +kernel
theorem dX6_crossing_58 : decode cX6_crossing 58 = .ok (.goto (-52), 3) := by decide +kernel
theorem dX6_crossing_61 : decode cX6_crossing 61 = .ok (.iload 7, 2) := by decide +kernel
theorem dX6_crossing_63 : decode cX6_crossing 63 = .ok (.ireturn, 1) := by decide +kernel
set_option maxRecDepth 20000 in
theorem ggX6_least_X6_isShip : GoodIn wsX6_least wsX6_isShip := goodIn_r _ [9, 10, 11, 12, 8, 13, 40, 41, 42, 43, 44, 45, 46, 47, 48, 49, 50, 51, 52, 53, 54, 55, 56, 57, 58, 59, 60, 61, 62, 63, 64, 65, 66, 67, 68, 69, 70] (by decide +kernel) (by decide +kernel)
set_option maxRecDepth 20000 in
theorem gX6_least_X6_isShip : GoodIn wsX6_least (wsV RX6 116 RX6 yX6_isShip wsX6_isShip) := goodIn_app (goodIn_of _ (by decide +kernel)) ggX6_least_X6_isShip
set_option maxRecDepth 20000 in
theorem ggX6_least_X6_isCell : GoodIn wsX6_least wsX6_isCell := goodIn_r _ [16, 11, 12, 8, 13] (by decide +kernel) (by decide +kernel)
set_option maxRecDepth 20000 in
theorem gX6_least_X6_isCell : GoodIn wsX6_least (va_wsS RX6 91 yX6_isCell wsX6_isCell) := goodIn_app (goodIn_of _ (by decide +kernel)) ggX6_least_X6_isCell
set_option maxRecDepth 20000 in
theorem ggX6_least_X6_in : GoodIn wsX6_least wsX6_in := goodIn_r _ [13] (by decide +kernel) (by decide +kernel)
set_option maxRecDepth 20000 in
theorem gX6_least_X6_in : GoodIn wsX6_least (va_wsS RX6 87 yX6_in wsX6_in) := goodIn_app (goodIn_of _ (by decide +kernel)) ggX6_least_X6_in
set_option maxRecDepth 20000 in
theorem ggX6_least_X6_nextCell : GoodIn wsX6_least wsX6_nextCell := goodIn_r _ [20, 1, 11, 12, 8, 13, 40, 41, 42, 43, 44, 45, 46, 47, 48, 49, 50, 51, 52, 53, 54, 55, 56, 57, 58, 59, 60, 61, 62, 63, 64, 65, 66, 67, 68, 69, 70] (by decide +kernel) (by decide +kernel)
set_option maxRecDepth 20000 in
theorem gX6_least_X6_nextCell : GoodIn wsX6_least (wsV RX6 149 RX6 yX6_nextCell wsX6_nextCell) := goodIn_app (goodIn_of _ (by decide +kernel)) ggX6_least_X6_nextCell
set_option maxRecDepth 20000 in
theorem ggX6_least_X6_crossing : GoodIn wsX6_least wsX6_crossing := goodIn_r _ [24, 25, 26, 8, 27, 28, 29, 30, 31, 32, 33, 11, 12, 13, 34, 35, 36, 37, 38, 39, 40, 41, 42, 43, 44, 45, 46, 47, 48, 49, 50, 51, 52, 53, 54, 55, 56, 57, 58, 59, 60, 61, 62, 63, 64, 65, 66, 67, 68, 69, 70] (by decide +kernel) (by decide +kernel)
set_option maxRecDepth 20000 in
theorem gX6_least_X6_crossing : GoodIn wsX6_least (wsV RX6 164 RX6 yX6_crossing wsX6_crossing) := goodIn_app (goodIn_of _ (by decide +kernel)) ggX6_least_X6_crossing
theorem dX6_least_0 : decode cX6_least 0 = .ok (.aload_n 0, 1) := by decide +kernel
theorem dX6_least_1 : decode cX6_least 1 = .ok (.iload_n 1, 1) := by decide +kernel
theorem dX6_least_2 : decode cX6_least 2 = .ok (.invokevirtual 116, 3) := by decide +kernel
theorem dX6_least_5 : decode cX6_least 5 = .ok (.ifCond .eq 46, 3) := by decide +kernel
theorem dX6_least_8 : decode cX6_least 8 = .ok (.iload_n 2, 1) := by decide +kernel
theorem dX6_least_9 : decode cX6_least 9 = .ok (.invokestatic 91, 3) := by decide +kernel
theorem dX6_least_12 : decode cX6_least 12 = .ok (.ifCond .eq 39, 3) := by decide +kernel
theorem dX6_least_15 : decode cX6_least 15 = .ok (.iload_n 3, 1) := by decide +kernel
theorem dX6_least_16 : decode cX6_least 16 = .ok (.invokestatic 91, 3) := by decide +kernel
theorem dX6_least_19 : decode cX6_least 19 = .ok (.ifCond .eq 32, 3) := by decide +kernel
theorem dX6_least_22 : decode cX6_least 22 = .ok (.aload_n 0, 1) := by decide +kernel
theorem dX6_least_23 : decode cX6_least 23 = .ok (.getfield 13, 3) := by decide +kernel
theorem dX6_least_26 : decode cX6_least 26 = .ok (.iload_n 2, 1) := by decide +kernel
theorem dX6_least_27 : decode cX6_least 27 = .ok (.baload, 1) := by decide +kernel
theorem dX6_least_28 : decode cX6_least 28 = .ok (.ifCond .ne 23, 3) := by decide +kernel
theorem dX6_least_31 : decode cX6_least 31 = .ok (.aload_n 0, 1) := by decide +kernel
theorem dX6_least_32 : decode cX6_least 32 = .ok (.getfield 13, 3) := by decide +kernel
theorem dX6_least_35 : decode cX6_least 35 = .ok (.iload_n 3, 1) := by decide +kernel
theorem dX6_least_36 : decode cX6_least 36 = .ok (.baload, 1) := by decide +kernel
theorem dX6_least_37 : decode cX6_least 37 = .ok (.ifCond .ne 14, 3) := by decide +kernel
theorem dX6_least_40 : decode cX6_least 40 = .ok (.iload 4, 2) := by decide +kernel
theorem dX6_least_42 : decode cX6_least 42 = .ok (.iconst 0, 1) := by decide +kernel
theorem dX6_least_43 : decode cX6_least 43 = .ok (.ldc 163, 2) := by decide +kernel
theorem dX6_least_45 : decode cX6_least 45 = .ok (.invokestatic 87, 3) := by decide +kernel
theorem dX6_least_48 : decode cX6_least 48 = .ok (.ifCond .ne 5, 3) := by decide +kernel
theorem dX6_least_51 : decode cX6_least 51 = .ok (.iconst (-1), 1) := by decide +kernel
theorem dX6_least_52 : decode cX6_least 52 = .ok (.ireturn, 1) := by decide +kernel
theorem dX6_least_53 : decode cX6_least 53 = .ok (.iconst 0, 1) := by decide +kernel
theorem dX6_least_54 : decode cX6_least 54 = .ok (.istore 5, 2) := by decide +kernel
theorem dX6_least_56 : decode cX6_least 56 = .ok (.iload 5, 2) := by decide +kernel
theorem dX6_least_58 : decode cX6_least 58 = .ok (.sipush 160, 3) := by decide +kernel
theorem dX6_least_61 : decode cX6_least 61 = .ok (.if_icmp .ge 27, 3) := by decide +kernel
theorem dX6_least_64 : decode cX6_least 64 = .ok (.aload_n 0, 1) := by decide +kernel
theorem dX6_least_65 : decode cX6_least 65 = .ok (.getfield 62, 3) := by decide +kernel
theorem dX6_least_68 : decode cX6_least 68 = .ok (.iload 5, 2) := by decide +kernel
theorem dX6_least_70 : decode cX6_least 70 = .ok (.sipush 2001, 3) := by decide +kernel
theorem dX6_least_73 : decode cX6_least 73 = .ok (.iastore, 1) := by decide +kernel
theorem dX6_least_74 : decode cX6_least 74 = .ok (.aload_n 0, 1) := by decide +kernel
theorem dX6_least_75 : decode cX6_least 75 = .ok (.getfield 65, 3) := by decide +kernel
theorem dX6_least_78 : decode cX6_least 78 = .ok (.iload 5, 2) := by decide +kernel
theorem dX6_least_80 : decode cX6_least 80 = .ok (.iconst 0, 1) := by decide +kernel
theorem dX6_least_81 : decode cX6_least 81 = .ok (.bastore, 1) := by decide +kernel
theorem dX6_least_82 : decode cX6_least 82 = .ok (.iinc 5 1, 3) := by decide +kernel
theorem dX6_least_85 : decode cX6_least 85 = .ok (.goto (-29), 3) := by decide +kernel
theorem dX6_least_88 : decode cX6_least 88 = .ok (.aload_n 0, 1) := by decide +kernel
theorem dX6_least_89 : decode cX6_least 89 = .ok (.getfield 62, 3) := by decide +kernel
theorem dX6_least_92 : decode cX6_least 92 = .ok (.iload_n 2, 1) := by decide +kernel
theorem dX6_least_93 : decode cX6_least 93 = .ok (.iconst 0, 1) := by decide +kernel
theorem dX6_least_94 : decode cX6_least 94 = .ok (.iastore, 1) := by decide +kernel
theorem dX6_least_95 : decode cX6_least 95 = .ok (.iload_n 2, 1) := by decide +kernel
theorem dX6_least_96 : decode cX6_least 96 = .ok (.istore 5, 2) := by decide +kernel
theorem dX6_least_98 : decode cX6_least 98 = .ok (.iload 5, 2) := by decide +kernel
theorem dX6_least_100 : decode cX6_least 100 = .ok (.iload_n 3, 1) := by decide +kernel
theorem dX6_least_101 : decode cX6_least 101 = .ok (.if_icmp .eq 208, 3) := by decide +kernel
theorem dX6_least_104 : decode cX6_least 104 = .ok (.iload 5, 2) := by decide +kernel
theorem dX6_least_106 : decode cX6_least 106 = .ok (.ifCond .lt 203, 3) := by decide +kernel
theorem dX6_least_109 : decode cX6_least 109 = .ok (.aload_n 0, 1) := by decide +kernel
theorem dX6_least_110 : decode cX6_least 110 = .ok (.getfield 65, 3) := by decide +kernel
theorem dX6_least_113 : decode cX6_least 113 = .ok (.iload 5, 2) := by decide +kernel
theorem dX6_least_115 : decode cX6_least 115 = .ok (.iconst 1, 1) := by decide +kernel
theorem dX6_least_116 : decode cX6_least 116 = .ok (.bastore, 1) := by decide +kernel
theorem dX6_least_117 : decode cX6_least 117 = .ok (.iconst 0, 1) := by decide +kernel
theorem dX6_least_118 : decode cX6_least 118 = .ok (.istore 6, 2) := by decide +kernel
theorem dX6_least_120 : decode cX6_least 120 = .ok (.iload 6, 2) := by decide +kernel
theorem dX6_least_122 : decode cX6_least 122 = .ok (.bipush 8, 2) := by decide +kernel
theorem dX6_least_124 : decode cX6_least 124 = .ok (.if_icmp .ge 107, 3) := by decide +kernel
theorem dX6_least_127 : decode cX6_least 127 = .ok (.aload_n 0, 1) := by decide +kernel
theorem dX6_least_128 : decode cX6_least 128 = .ok (.iload 5, 2) := by decide +kernel
theorem dX6_least_130 : decode cX6_least 130 = .ok (.iload 6, 2) := by decide +kernel
theorem dX6_least_132 : decode cX6_least 132 = .ok (.invokevirtual 149, 3) := by decide +kernel
theorem dX6_least_135 : decode cX6_least 135 = .ok (.istore 7, 2) := by decide +kernel
theorem dX6_least_137 : decode cX6_least 137 = .ok (.iload 7, 2) := by decide +kernel
theorem dX6_least_139 : decode cX6_least 139 = .ok (.bipush (-9), 2) := by decide +kernel
theorem dX6_least_141 : decode cX6_least 141 = .ok (.if_icmp .eq 84, 3) := by decide +kernel
theorem dX6_least_144 : decode cX6_least 144 = .ok (.aload_n 0, 1) := by decide +kernel
theorem dX6_least_145 : decode cX6_least 145 = .ok (.getfield 65, 3) := by decide +kernel
theorem dX6_least_148 : decode cX6_least 148 = .ok (.iload 7, 2) := by decide +kernel
theorem dX6_least_150 : decode cX6_least 150 = .ok (.baload, 1) := by decide +kernel
theorem dX6_least_151 : decode cX6_least 151 = .ok (.ifCond .ne 74, 3) := by decide +kernel
theorem dX6_least_154 : decode cX6_least 154 = .ok (.aload_n 0, 1) := by decide +kernel
theorem dX6_least_155 : decode cX6_least 155 = .ok (.getfield 62, 3) := by decide +kernel
theorem dX6_least_158 : decode cX6_least 158 = .ok (.iload 5, 2) := by decide +kernel
theorem dX6_least_160 : decode cX6_least 160 = .ok (.iaload, 1) := by decide +kernel
theorem dX6_least_161 : decode cX6_least 161 = .ok (.aload_n 0, 1) := by decide +kernel
theorem dX6_least_162 : decode cX6_least 162 = .ok (.iload_n 1, 1) := by decide +kernel
theorem dX6_least_163 : decode cX6_least 163 = .ok (.iload 5, 2) := by decide +kernel
theorem dX6_least_165 : decode cX6_least 165 = .ok (.iload 6, 2) := by decide +kernel
theorem dX6_least_167 : decode cX6_least 167 = .ok (.iload 4, 2) := by decide +kernel
theorem dX6_least_169 : decode cX6_least 169 = .ok (.aload_n 0, 1) := by decide +kernel
theorem dX6_least_170 : decode cX6_least 170 = .ok (.getfield 62, 3) := by decide +kernel
theorem dX6_least_173 : decode cX6_least 173 = .ok (.iload 5, 2) := by decide +kernel
theorem dX6_least_175 : decode cX6_least 175 = .ok (.iaload, 1) := by decide +kernel
theorem dX6_least_176 : decode cX6_least 176 = .ok (.iadd, 1) := by decide +kernel
theorem dX6_least_177 : decode cX6_least 177 = .ok (.sipush 2000, 3) := by decide +kernel
theorem dX6_least_180 : decode cX6_least 180 = .ok (.aload_n 0, 1) := by decide +kernel
theorem dX6_least_181 : decode cX6_least 181 = .ok (.getfield 62, 3) := by decide +kernel
theorem dX6_least_184 : decode cX6_least 184 = .ok (.iload 5, 2) := by decide +kernel
theorem dX6_least_186 : decode cX6_least 186 = .ok (.iaload, 1) := by decide +kernel
theorem dX6_least_187 : decode cX6_least 187 = .ok (.isub, 1) := by decide +kernel
theorem dX6_least_188 : decode cX6_least 188 = .ok (.invokevirtual 164, 3) := by decide +kernel
theorem dX6_least_191 : decode cX6_least 191 = .ok (.iadd, 1) := by decide +kernel
theorem dX6_least_192 : decode cX6_least 192 = .ok (.istore 8, 2) := by decide +kernel
theorem dX6_least_194 : decode cX6_least 194 = .ok (.aload_n 0, 1) := by decide +kernel
theorem dX6_least_195 : decode cX6_least 195 = .ok (.getfield 62, 3) := by decide +kernel
theorem dX6_least_198 : decode cX6_least 198 = .ok (.iload 7, 2) := by decide +kernel
theorem dX6_least_200 : decode cX6_least 200 = .ok (.iload 8, 2) := by decide +kernel
theorem dX6_least_202 : decode cX6_least 202 = .ok (.aload_n 0, 1) := by decide +kernel
theorem dX6_least_203 : decode cX6_least 203 = .ok (.getfield 62, 3) := by decide +kernel
theorem dX6_least_206 : decode cX6_least 206 = .ok (.iload 7, 2) := by decide +kernel
theorem dX6_least_208 : decode cX6_least 208 = .ok (.iaload, 1) := by decide +kernel
theorem dX6_least_209 : decode cX6_least 209 = .ok (.if_icmp .ge 8, 3) := by decide +kernel
theorem dX6_least_212 : decode cX6_least 212 = .ok (.iload 8, 2) := by decide +kernel
theorem dX6_least_214 : decode cX6_least 214 = .ok (.goto 10, 3) := by decide +kernel
theorem dX6_least_217 : decode cX6_least 217 = .ok (.aload_n 0, 1) := by decide +kernel
theorem dX6_least_218 : decode cX6_least 218 = .ok (.getfield 62, 3) := by decide +kernel
theorem dX6_least_221 : decode cX6_least 221 = .ok (.iload 7, 2) := by decide +kernel
theorem dX6_least_223 : decode cX6_least 223 = .ok (.iaload, 1) := by decide +kernel
theorem dX6_least_224 : decode cX6_least 224 = .ok (.iastore, 1) := by decide +kernel
theorem dX6_least_225 : decode cX6_least 225 = .ok (.iinc 6 1, 3) := by decide +kernel
theorem dX6_least_228 : decode cX6_least 228 = .ok (.goto (-108), 3) := by decide +kernel
theorem dX6_least_231 : decode cX6_least 231 = .ok (.bipush (-9), 2) := by decide +kernel
theorem dX6_least_233 : decode cX6_least 233 = .ok (.istore 5, 2) := by decide +kernel
theorem dX6_least_235 : decode cX6_least 235 = .ok (.iconst 0, 1) := by decide +kernel
theorem dX6_least_236 : decode cX6_least 236 = .ok (.istore 6, 2) := by decide +kernel
theorem dX6_least_238 : decode cX6_least 238 = .ok (.iload 6, 2) := by decide +kernel
theorem dX6_least_240 : decode cX6_least 240 = .ok (.sipush 160, 3) := by decide +kernel
theorem dX6_least_243 : decode cX6_least 243 = .ok (.if_icmp .ge 63, 3) := by decide +kernel
theorem dX6_least_246 : decode cX6_least 246 = .ok (.aload_n 0, 1) := by decide +kernel
theorem dX6_least_247 : decode cX6_least 247 = .ok (.getfield 65, 3) := by decide +kernel
theorem dX6_least_250 : decode cX6_least 250 = .ok (.iload 6, 2) := by decide +kernel
theorem dX6_least_252 : decode cX6_least 252 = .ok (.baload, 1) := by decide +kernel
theorem dX6_least_253 : decode cX6_least 253 = .ok (.ifCond .ne 43, 3) := by decide +kernel
theorem dX6_least_256 : decode cX6_least 256 = .ok (.aload_n 0, 1) := by decide +kernel
theorem dX6_least_257 : decode cX6_least 257 = .ok (.getfield 62, 3) := by decide +kernel
theorem dX6_least_260 : decode cX6_least 260 = .ok (.iload 6, 2) := by decide +kernel
theorem dX6_least_262 : decode cX6_least 262 = .ok (.iaload, 1) := by decide +kernel
theorem dX6_least_263 : decode cX6_least 263 = .ok (.sipush 2000, 3) := by decide +kernel
theorem dX6_least_266 : decode cX6_least 266 = .ok (.if_icmp .gt 30, 3) := by decide +kernel
theorem dX6_least_269 : decode cX6_least 269 = .ok (.iload 5, 2) := by decide +kernel
theorem dX6_least_271 : decode cX6_least 271 = .ok (.ifCond .lt 20, 3) := by decide +kernel
theorem dX6_least_274 : decode cX6_least 274 = .ok (.aload_n 0, 1) := by decide +kernel
theorem dX6_least_275 : decode cX6_least 275 = .ok (.getfield 62, 3) := by decide +kernel
theorem dX6_least_278 : decode cX6_least 278 = .ok (.iload 6, 2) := by decide +kernel
theorem dX6_least_280 : decode cX6_least 280 = .ok (.iaload, 1) := by decide +kernel
theorem dX6_least_281 : decode cX6_least 281 = .ok (.aload_n 0, 1) := by decide +kernel
theorem dX6_least_282 : decode cX6_least 282 = .ok (.getfield 62, 3) := by decide +kernel
theorem dX6_least_285 : decode cX6_least 285 = .ok (.iload 5, 2) := by decide +kernel
theorem dX6_least_287 : decode cX6_least 287 = .ok (.iaload, 1) := by decide +kernel
theorem dX6_least_288 : decode cX6_least 288 = .ok (.if_icmp .ge 8, 3) := by decide +kernel
theorem dX6_least_291 : decode cX6_least 291 = .ok (.iload 6, 2) := by decide +kernel
theorem dX6_least_293 : decode cX6_least 293 = .ok (.goto 5, 3) := by decide +kernel
theorem dX6_least_296 : decode cX6_least 296 = .ok (.iload 5, 2) := by decide +kernel
theorem dX6_least_298 : decode cX6_least 298 = .ok (.istore 5, 2) := by decide +kernel
theorem dX6_least_300 : decode cX6_least 300 = .ok (.iinc 6 1, 3) := by decide +kernel
theorem dX6_least_303 : decode cX6_least 303 = .ok (.goto (-65), 3) := by decide +kernel
theorem dX6_least_306 : decode cX6_least 306 = .ok (.goto (-208), 3) := by decide +kernel
theorem dX6_least_309 : decode cX6_least 309 = .ok (.iload 5, 2) := by decide +kernel
theorem dX6_least_311 : decode cX6_least 311 = .ok (.ifCond .ge 8, 3) := by decide +kernel
theorem dX6_least_314 : decode cX6_least 314 = .ok (.bipush (-9), 2) := by decide +kernel
theorem dX6_least_316 : decode cX6_least 316 = .ok (.goto 9, 3) := by decide +kernel
theorem dX6_least_319 : decode cX6_least 319 = .ok (.aload_n 0, 1) := by decide +kernel
theorem dX6_least_320 : decode cX6_least 320 = .ok (.getfield 62, 3) := by decide +kernel
theorem dX6_least_323 : decode cX6_least 323 = .ok (.iload_n 3, 1) := by decide +kernel
theorem dX6_least_324 : decode cX6_least 324 = .ok (.iaload, 1) := by decide +kernel
theorem dX6_least_325 : decode cX6_least 325 = .ok (.ireturn, 1) := by decide +kernel
set_option maxRecDepth 20000 in
theorem ggX6_sight_X6_isShip : GoodIn wsX6_sight wsX6_isShip := goodIn_r _ [10, 11, 12, 13, 9, 14, 18, 19, 20, 21, 22, 23, 24, 25, 26, 27, 28, 29, 30, 31, 32, 33, 34, 35, 36, 37, 38, 39, 40, 41, 42, 43, 44, 45, 46, 47, 48] (by decide +kernel) (by decide +kernel)
set_option maxRecDepth 20000 in
theorem gX6_sight_X6_isShip : GoodIn wsX6_sight (wsV RX6 116 RX6 yX6_isShip wsX6_isShip) := goodIn_app (goodIn_of _ (by decide +kernel)) ggX6_sight_X6_isShip
set_option maxRecDepth 20000 in
theorem ggX6_sight_X6_isCell : GoodIn wsX6_sight wsX6_isCell := goodIn_r _ [17, 12, 13, 9, 14] (by decide +kernel) (by decide +kernel)
set_option maxRecDepth 20000 in
theorem gX6_sight_X6_isCell : GoodIn wsX6_sight (va_wsS RX6 91 yX6_isCell wsX6_isCell) := goodIn_app (goodIn_of _ (by decide +kernel)) ggX6_sight_X6_isCell
set_option maxRecDepth 20000 in
theorem ggX6_sight_X6_in : GoodIn wsX6_sight wsX6_in := goodIn_r _ [14] (by decide +kernel) (by decide +kernel)
set_option maxRecDepth 20000 in
theorem gX6_sight_X6_in : GoodIn wsX6_sight (va_wsS RX6 87 yX6_in wsX6_in) := goodIn_app (goodIn_of _ (by decide +kernel)) ggX6_sight_X6_in
theorem dX6_sight_0 : decode cX6_sight 0 = .ok (.aload_n 0, 1) := by decide +kernel
theorem dX6_sight_1 : decode cX6_sight 1 = .ok (.iload_n 1, 1) := by decide +kernel
theorem dX6_sight_2 : decode cX6_sight 2 = .ok (.invokevirtual 116, 3) := by decide +kernel
theorem dX6_sight_5 : decode cX6_sight 5 = .ok (.ifCond .eq 24, 3) := by decide +kernel
theorem dX6_sight_8 : decode cX6_sight 8 = .ok (.iload_n 2, 1) := by decide +kernel
theorem dX6_sight_9 : decode cX6_sight 9 = .ok (.invokestatic 91, 3) := by decide +kernel
theorem dX6_sight_12 : decode cX6_sight 12 = .ok (.ifCond .eq 17, 3) := by decide +kernel
theorem dX6_sight_15 : decode cX6_sight 15 = .ok (.iload_n 3, 1) := by decide +kernel
theorem dX6_sight_16 : decode cX6_sight 16 = .ok (.iconst 0, 1) := by decide +kernel
theorem dX6_sight_17 : decode cX6_sight 17 = .ok (.ldc 152, 2) := by decide +kernel
theorem dX6_sight_19 : decode cX6_sight 19 = .ok (.invokestatic 87, 3) := by decide +kernel
theorem dX6_sight_22 : decode cX6_sight 22 = .ok (.ifCond .eq 7, 3) := by decide +kernel
theorem dX6_sight_25 : decode cX6_sight 25 = .ok (.iconst 1, 1) := by decide +kernel
theorem dX6_sight_26 : decode cX6_sight 26 = .ok (.goto 4, 3) := by decide +kernel
theorem dX6_sight_29 : decode cX6_sight 29 = .ok (.iconst 0, 1) := by decide +kernel
theorem dX6_sight_30 : decode cX6_sight 30 = .ok (.istore 4, 2) := by decide +kernel
theorem dX6_sight_32 : decode cX6_sight 32 = .ok (.iconst 0, 1) := by decide +kernel
theorem dX6_sight_33 : decode cX6_sight 33 = .ok (.istore 5, 2) := by decide +kernel
theorem dX6_sight_35 : decode cX6_sight 35 = .ok (.iload 5, 2) := by decide +kernel
theorem dX6_sight_37 : decode cX6_sight 37 = .ok (.aload_n 0, 1) := by decide +kernel
theorem dX6_sight_38 : decode cX6_sight 38 = .ok (.getfield 168, 3) := by decide +kernel
theorem dX6_sight_41 : decode cX6_sight 41 = .ok (.if_icmp .ge 43, 3) := by decide +kernel
theorem dX6_sight_44 : decode cX6_sight 44 = .ok (.iload 4, 2) := by decide +kernel
theorem dX6_sight_46 : decode cX6_sight 46 = .ok (.ifCond .eq 29, 3) := by decide +kernel
theorem dX6_sight_49 : decode cX6_sight 49 = .ok (.aload_n 0, 1) := by decide +kernel
theorem dX6_sight_50 : decode cX6_sight 50 = .ok (.getfield 68, 3) := by decide +kernel
theorem dX6_sight_53 : decode cX6_sight 53 = .ok (.iload 5, 2) := by decide +kernel
theorem dX6_sight_55 : decode cX6_sight 55 = .ok (.iaload, 1) := by decide +kernel
theorem dX6_sight_56 : decode cX6_sight 56 = .ok (.iload_n 1, 1) := by decide +kernel
theorem dX6_sight_57 : decode cX6_sight 57 = .ok (.if_icmp .ne 14, 3) := by decide +kernel
theorem dX6_sight_60 : decode cX6_sight 60 = .ok (.aload_n 0, 1) := by decide +kernel
theorem dX6_sight_61 : decode cX6_sight 61 = .ok (.getfield 74, 3) := by decide +kernel
theorem dX6_sight_64 : decode cX6_sight 64 = .ok (.iload 5, 2) := by decide +kernel
theorem dX6_sight_66 : decode cX6_sight 66 = .ok (.iaload, 1) := by decide +kernel
theorem dX6_sight_67 : decode cX6_sight 67 = .ok (.iload_n 3, 1) := by decide +kernel
theorem dX6_sight_68 : decode cX6_sight 68 = .ok (.if_icmp .ge 7, 3) := by decide +kernel
theorem dX6_sight_71 : decode cX6_sight 71 = .ok (.iconst 1, 1) := by decide +kernel
theorem dX6_sight_72 : decode cX6_sight 72 = .ok (.goto 4, 3) := by decide +kernel
theorem dX6_sight_75 : decode cX6_sight 75 = .ok (.iconst 0, 1) := by decide +kernel
theorem dX6_sight_76 : decode cX6_sight 76 = .ok (.istore 4, 2) := by decide +kernel
theorem dX6_sight_78 : decode cX6_sight 78 = .ok (.iinc 5 1, 3) := by decide +kernel
theorem dX6_sight_81 : decode cX6_sight 81 = .ok (.goto (-46), 3) := by decide +kernel
theorem dX6_sight_84 : decode cX6_sight 84 = .ok (.iload 4, 2) := by decide +kernel
theorem dX6_sight_86 : decode cX6_sight 86 = .ok (.ifCond .ne 5, 3) := by decide +kernel
theorem dX6_sight_89 : decode cX6_sight 89 = .ok (.iconst (-1), 1) := by decide +kernel
theorem dX6_sight_90 : decode cX6_sight 90 = .ok (.ireturn, 1) := by decide +kernel
theorem dX6_sight_91 : decode cX6_sight 91 = .ok (.aload_n 0, 1) := by decide +kernel
theorem dX6_sight_92 : decode cX6_sight 92 = .ok (.getfield 168, 3) := by decide +kernel
theorem dX6_sight_95 : decode cX6_sight 95 = .ok (.bipush 60, 2) := by decide +kernel
theorem dX6_sight_97 : decode cX6_sight 97 = .ok (.if_icmp .ne 6, 3) := by decide +kernel
theorem dX6_sight_100 : decode cX6_sight 100 = .ok (.bipush (-2), 2) := by decide +kernel
theorem dX6_sight_102 : decode cX6_sight 102 = .ok (.ireturn, 1) := by decide +kernel
theorem dX6_sight_103 : decode cX6_sight 103 = .ok (.aload_n 0, 1) := by decide +kernel
theorem dX6_sight_104 : decode cX6_sight 104 = .ok (.getfield 68, 3) := by decide +kernel
theorem dX6_sight_107 : decode cX6_sight 107 = .ok (.aload_n 0, 1) := by decide +kernel
theorem dX6_sight_108 : decode cX6_sight 108 = .ok (.getfield 168, 3) := by decide +kernel
theorem dX6_sight_111 : decode cX6_sight 111 = .ok (.iload_n 1, 1) := by decide +kernel
theorem dX6_sight_112 : decode cX6_sight 112 = .ok (.iastore, 1) := by decide +kernel
theorem dX6_sight_113 : decode cX6_sight 113 = .ok (.aload_n 0, 1) := by decide +kernel
theorem dX6_sight_114 : decode cX6_sight 114 = .ok (.getfield 71, 3) := by decide +kernel
theorem dX6_sight_117 : decode cX6_sight 117 = .ok (.aload_n 0, 1) := by decide +kernel
theorem dX6_sight_118 : decode cX6_sight 118 = .ok (.getfield 168, 3) := by decide +kernel
theorem dX6_sight_121 : decode cX6_sight 121 = .ok (.iload_n 2, 1) := by decide +kernel
theorem dX6_sight_122 : decode cX6_sight 122 = .ok (.iastore, 1) := by decide +kernel
theorem dX6_sight_123 : decode cX6_sight 123 = .ok (.aload_n 0, 1) := by decide +kernel
theorem dX6_sight_124 : decode cX6_sight 124 = .ok (.getfield 74, 3) := by decide +kernel
theorem dX6_sight_127 : decode cX6_sight 127 = .ok (.aload_n 0, 1) := by decide +kernel
theorem dX6_sight_128 : decode cX6_sight 128 = .ok (.getfield 168, 3) := by decide +kernel
theorem dX6_sight_131 : decode cX6_sight 131 = .ok (.iload_n 3, 1) := by decide +kernel
theorem dX6_sight_132 : decode cX6_sight 132 = .ok (.iastore, 1) := by decide +kernel
theorem dX6_sight_133 : decode cX6_sight 133 = .ok (.aload_n 0, 1) := by decide +kernel
theorem dX6_sight_134 : decode cX6_sight 134 = .ok (.dup, 1) := by decide +kernel
theorem dX6_sight_135 : decode cX6_sight 135 = .ok (.getfield 168, 3) := by decide +kernel
theorem dX6_sight_138 : decode cX6_sight 138 = .ok (.iconst 1, 1) := by decide +kernel
theorem dX6_sight_139 : decode cX6_sight 139 = .ok (.iadd, 1) := by decide +kernel
theorem dX6_sight_140 : decode cX6_sight 140 = .ok (.putfield 168, 3) := by decide +kernel
theorem dX6_sight_143 : decode cX6_sight 143 = .ok (.aload_n 0, 1) := by decide +kernel
theorem dX6_sight_144 : decode cX6_sight 144 = .ok (.getfield 168, 3) := by decide +kernel
theorem dX6_sight_147 : decode cX6_sight 147 = .ok (.ireturn, 1) := by decide +kernel
theorem dX6_apart_0 : decode cX6_apart 0 = .ok (.iload_n 0, 1) := by decide +kernel
theorem dX6_apart_1 : decode cX6_apart 1 = .ok (.iload_n 1, 1) := by decide +kernel
theorem dX6_apart_2 : decode cX6_apart 2 = .ok (.if_icmp .le 9, 3) := by decide +kernel
theorem dX6_apart_5 : decode cX6_apart 5 = .ok (.iload_n 0, 1) := by decide +kernel
theorem dX6_apart_6 : decode cX6_apart 6 = .ok (.iload_n 1, 1) := by decide +kernel
theorem dX6_apart_7 : decode cX6_apart 7 = .ok (.isub, 1) := by decide +kernel
theorem dX6_apart_8 : decode cX6_apart 8 = .ok (.goto 6, 3) := by decide +kernel
theorem dX6_apart_11 : decode cX6_apart 11 = .ok (.iload_n 1, 1) := by decide +kernel
theorem dX6_apart_12 : decode cX6_apart 12 = .ok (.iload_n 0, 1) := by decide +kernel
theorem dX6_apart_13 : decode cX6_apart 13 = .ok (.isub, 1) := by decide +kernel
theorem dX6_apart_14 : decode cX6_apart 14 = .ok (.ireturn, 1) := by decide +kernel
set_option maxRecDepth 20000 in
theorem ggX6_farOf_X6_apart : GoodIn wsX6_farOf wsX6_apart := goodIn_r _ [5] (by decide +kernel) (by decide +kernel)
set_option maxRecDepth 20000 in
theorem gX6_farOf_X6_apart : GoodIn wsX6_farOf (va_wsS RX6 171 yX6_apart wsX6_apart) := goodIn_app (goodIn_of _ (by decide +kernel)) ggX6_farOf_X6_apart
theorem dX6_farOf_0 : decode cX6_farOf 0 = .ok (.iload_n 1, 1) := by decide +kernel
theorem dX6_farOf_1 : decode cX6_farOf 1 = .ok (.bipush 16, 2) := by decide +kernel
theorem dX6_farOf_3 : decode cX6_farOf 3 = .ok (.irem, 1) := by decide +kernel
theorem dX6_farOf_4 : decode cX6_farOf 4 = .ok (.aload_n 0, 1) := by decide +kernel
theorem dX6_farOf_5 : decode cX6_farOf 5 = .ok (.getfield 136, 3) := by decide +kernel
theorem dX6_farOf_8 : decode cX6_farOf 8 = .ok (.bipush 16, 2) := by decide +kernel
theorem dX6_farOf_10 : decode cX6_farOf 10 = .ok (.irem, 1) := by decide +kernel
theorem dX6_farOf_11 : decode cX6_farOf 11 = .ok (.invokestatic 171, 3) := by decide +kernel
theorem dX6_farOf_14 : decode cX6_farOf 14 = .ok (.istore_n 2, 1) := by decide +kernel
theorem dX6_farOf_15 : decode cX6_farOf 15 = .ok (.iload_n 1, 1) := by decide +kernel
theorem dX6_farOf_16 : decode cX6_farOf 16 = .ok (.bipush 16, 2) := by decide +kernel
theorem dX6_farOf_18 : decode cX6_farOf 18 = .ok (.idiv, 1) := by decide +kernel
theorem dX6_farOf_19 : decode cX6_farOf 19 = .ok (.aload_n 0, 1) := by decide +kernel
theorem dX6_farOf_20 : decode cX6_farOf 20 = .ok (.getfield 136, 3) := by decide +kernel
theorem dX6_farOf_23 : decode cX6_farOf 23 = .ok (.bipush 16, 2) := by decide +kernel
theorem dX6_farOf_25 : decode cX6_farOf 25 = .ok (.idiv, 1) := by decide +kernel
theorem dX6_farOf_26 : decode cX6_farOf 26 = .ok (.invokestatic 171, 3) := by decide +kernel
theorem dX6_farOf_29 : decode cX6_farOf 29 = .ok (.istore_n 3, 1) := by decide +kernel
theorem dX6_farOf_30 : decode cX6_farOf 30 = .ok (.iload_n 2, 1) := by decide +kernel
theorem dX6_farOf_31 : decode cX6_farOf 31 = .ok (.iload_n 3, 1) := by decide +kernel
theorem dX6_farOf_32 : decode cX6_farOf 32 = .ok (.if_icmp .le 7, 3) := by decide +kernel
theorem dX6_farOf_35 : decode cX6_farOf 35 = .ok (.iload_n 2, 1) := by decide +kernel
theorem dX6_farOf_36 : decode cX6_farOf 36 = .ok (.goto 4, 3) := by decide +kernel
theorem dX6_farOf_39 : decode cX6_farOf 39 = .ok (.iload_n 3, 1) := by decide +kernel
theorem dX6_farOf_40 : decode cX6_farOf 40 = .ok (.ireturn, 1) := by decide +kernel
set_option maxRecDepth 20000 in
theorem ggX6_distanceOf_X6_farOf : GoodIn wsX6_distanceOf wsX6_farOf := goodIn_r _ [9, 10, 11, 12, 8, 13, 14, 15, 16, 17, 18, 19, 20, 21, 22, 23, 24, 25, 26, 27, 28, 29, 30, 31, 32, 33, 34, 35, 36, 37, 38, 39, 40, 41, 42, 43, 44] (by decide +kernel) (by decide +kernel)
set_option maxRecDepth 20000 in
theorem gX6_distanceOf_X6_farOf : GoodIn wsX6_distanceOf (wsV RX6 174 RX6 yX6_farOf wsX6_farOf) := goodIn_app (goodIn_of _ (by decide +kernel)) ggX6_distanceOf_X6_farOf
theorem dX6_distanceOf_0 : decode cX6_distanceOf 0 = .ok (.bipush (-9), 2) := by decide +kernel
theorem dX6_distanceOf_2 : decode cX6_distanceOf 2 = .ok (.istore 4, 2) := by decide +kernel
theorem dX6_distanceOf_4 : decode cX6_distanceOf 4 = .ok (.bipush (-9), 2) := by decide +kernel
theorem dX6_distanceOf_6 : decode cX6_distanceOf 6 = .ok (.istore 5, 2) := by decide +kernel
theorem dX6_distanceOf_8 : decode cX6_distanceOf 8 = .ok (.iconst 0, 1) := by decide +kernel
theorem dX6_distanceOf_9 : decode cX6_distanceOf 9 = .ok (.istore 6, 2) := by decide +kernel
theorem dX6_distanceOf_11 : decode cX6_distanceOf 11 = .ok (.iload 6, 2) := by decide +kernel
theorem dX6_distanceOf_13 : decode cX6_distanceOf 13 = .ok (.aload_n 0, 1) := by decide +kernel
theorem dX6_distanceOf_14 : decode cX6_distanceOf 14 = .ok (.getfield 168, 3) := by decide +kernel
theorem dX6_distanceOf_17 : decode cX6_distanceOf 17 = .ok (.if_icmp .ge 65, 3) := by decide +kernel
theorem dX6_distanceOf_20 : decode cX6_distanceOf 20 = .ok (.aload_n 0, 1) := by decide +kernel
theorem dX6_distanceOf_21 : decode cX6_distanceOf 21 = .ok (.getfield 68, 3) := by decide +kernel
theorem dX6_distanceOf_24 : decode cX6_distanceOf 24 = .ok (.iload 6, 2) := by decide +kernel
theorem dX6_distanceOf_26 : decode cX6_distanceOf 26 = .ok (.iaload, 1) := by decide +kernel
theorem dX6_distanceOf_27 : decode cX6_distanceOf 27 = .ok (.iload_n 1, 1) := by decide +kernel
theorem dX6_distanceOf_28 : decode cX6_distanceOf 28 = .ok (.if_icmp .ne 48, 3) := by decide +kernel
theorem dX6_distanceOf_31 : decode cX6_distanceOf 31 = .ok (.aload_n 0, 1) := by decide +kernel
theorem dX6_distanceOf_32 : decode cX6_distanceOf 32 = .ok (.getfield 74, 3) := by decide +kernel
theorem dX6_distanceOf_35 : decode cX6_distanceOf 35 = .ok (.iload 6, 2) := by decide +kernel
theorem dX6_distanceOf_37 : decode cX6_distanceOf 37 = .ok (.iaload, 1) := by decide +kernel
theorem dX6_distanceOf_38 : decode cX6_distanceOf 38 = .ok (.iload_n 2, 1) := by decide +kernel
theorem dX6_distanceOf_39 : decode cX6_distanceOf 39 = .ok (.if_icmp .gt 8, 3) := by decide +kernel
theorem dX6_distanceOf_42 : decode cX6_distanceOf 42 = .ok (.iload 6, 2) := by decide +kernel
theorem dX6_distanceOf_44 : decode cX6_distanceOf 44 = .ok (.goto 5, 3) := by decide +kernel
theorem dX6_distanceOf_47 : decode cX6_distanceOf 47 = .ok (.iload 4, 2) := by decide +kernel
theorem dX6_distanceOf_49 : decode cX6_distanceOf 49 = .ok (.istore 4, 2) := by decide +kernel
theorem dX6_distanceOf_51 : decode cX6_distanceOf 51 = .ok (.iload 5, 2) := by decide +kernel
theorem dX6_distanceOf_53 : decode cX6_distanceOf 53 = .ok (.ifCond .ge 19, 3) := by decide +kernel
theorem dX6_distanceOf_56 : decode cX6_distanceOf 56 = .ok (.aload_n 0, 1) := by decide +kernel
theorem dX6_distanceOf_57 : decode cX6_distanceOf 57 = .ok (.getfield 74, 3) := by decide +kernel
theorem dX6_distanceOf_60 : decode cX6_distanceOf 60 = .ok (.iload 6, 2) := by decide +kernel
theorem dX6_distanceOf_62 : decode cX6_distanceOf 62 = .ok (.iaload, 1) := by decide +kernel
theorem dX6_distanceOf_63 : decode cX6_distanceOf 63 = .ok (.iload_n 2, 1) := by decide +kernel
theorem dX6_distanceOf_64 : decode cX6_distanceOf 64 = .ok (.if_icmp .lt 8, 3) := by decide +kernel
theorem dX6_distanceOf_67 : decode cX6_distanceOf 67 = .ok (.iload 6, 2) := by decide +kernel
theorem dX6_distanceOf_69 : decode cX6_distanceOf 69 = .ok (.goto 5, 3) := by decide +kernel
theorem dX6_distanceOf_72 : decode cX6_distanceOf 72 = .ok (.iload 5, 2) := by decide +kernel
theorem dX6_distanceOf_74 : decode cX6_distanceOf 74 = .ok (.istore 5, 2) := by decide +kernel
theorem dX6_distanceOf_76 : decode cX6_distanceOf 76 = .ok (.iinc 6 1, 3) := by decide +kernel
theorem dX6_distanceOf_79 : decode cX6_distanceOf 79 = .ok (.goto (-68), 3) := by decide +kernel
theorem dX6_distanceOf_82 : decode cX6_distanceOf 82 = .ok (.iload 4, 2) := by decide +kernel
theorem dX6_distanceOf_84 : decode cX6_distanceOf 84 = .ok (.ifCond .lt 8, 3) := by decide +kernel
theorem dX6_distanceOf_87 : decode cX6_distanceOf 87 = .ok (.iload 5, 2) := by decide +kernel
theorem dX6_distanceOf_89 : decode cX6_distanceOf 89 = .ok (.ifCond .ge 6, 3) := by decide +kernel
theorem dX6_distanceOf_92 : decode cX6_distanceOf 92 = .ok (.bipush (-9), 2) := by decide +kernel
theorem dX6_distanceOf_94 : decode cX6_distanceOf 94 = .ok (.ireturn, 1) := by decide +kernel
theorem dX6_distanceOf_95 : decode cX6_distanceOf 95 = .ok (.iload_n 2, 1) := by decide +kernel
theorem dX6_distanceOf_96 : decode cX6_distanceOf 96 = .ok (.aload_n 0, 1) := by decide +kernel
theorem dX6_distanceOf_97 : decode cX6_distanceOf 97 = .ok (.getfield 74, 3) := by decide +kernel
theorem dX6_distanceOf_100 : decode cX6_distanceOf 100 = .ok (.iload 4, 2) := by decide +kernel
theorem dX6_distanceOf_102 : decode cX6_distanceOf 102 = .ok (.iaload, 1) := by decide +kernel
theorem dX6_distanceOf_103 : decode cX6_distanceOf 103 = .ok (.isub, 1) := by decide +kernel
theorem dX6_distanceOf_104 : decode cX6_distanceOf 104 = .ok (.istore 6, 2) := by decide +kernel
theorem dX6_distanceOf_106 : decode cX6_distanceOf 106 = .ok (.aload_n 0, 1) := by decide +kernel
theorem dX6_distanceOf_107 : decode cX6_distanceOf 107 = .ok (.getfield 74, 3) := by decide +kernel
theorem dX6_distanceOf_110 : decode cX6_distanceOf 110 = .ok (.iload 5, 2) := by decide +kernel
theorem dX6_distanceOf_112 : decode cX6_distanceOf 112 = .ok (.iaload, 1) := by decide +kernel
theorem dX6_distanceOf_113 : decode cX6_distanceOf 113 = .ok (.iload_n 2, 1) := by decide +kernel
theorem dX6_distanceOf_114 : decode cX6_distanceOf 114 = .ok (.isub, 1) := by decide +kernel
theorem dX6_distanceOf_115 : decode cX6_distanceOf 115 = .ok (.istore 7, 2) := by decide +kernel
theorem dX6_distanceOf_117 : decode cX6_distanceOf 117 = .ok (.aload_n 0, 1) := by decide +kernel
theorem dX6_distanceOf_118 : decode cX6_distanceOf 118 = .ok (.aload_n 0, 1) := by decide +kernel
theorem dX6_distanceOf_119 : decode cX6_distanceOf 119 = .ok (.getfield 71, 3) := by decide +kernel
theorem dX6_distanceOf_122 : decode cX6_distanceOf 122 = .ok (.iload 4, 2) := by decide +kernel
theorem dX6_distanceOf_124 : decode cX6_distanceOf 124 = .ok (.iaload, 1) := by decide +kernel
theorem dX6_distanceOf_125 : decode cX6_distanceOf 125 = .ok (.invokevirtual 174, 3) := by decide +kernel
theorem dX6_distanceOf_128 : decode cX6_distanceOf 128 = .ok (.iload_n 3, 1) := by decide +kernel
theorem dX6_distanceOf_129 : decode cX6_distanceOf 129 = .ok (.ifCond .eq 8, 3) := by decide +kernel
theorem dX6_distanceOf_132 : decode cX6_distanceOf 132 = .ok (.iload 6, 2) := by decide +kernel
theorem dX6_distanceOf_134 : decode cX6_distanceOf 134 = .ok (.goto 6, 3) := by decide +kernel
theorem dX6_distanceOf_137 : decode cX6_distanceOf 137 = .ok (.iload 6, 2) := by decide +kernel
theorem dX6_distanceOf_139 : decode cX6_distanceOf 139 = .ok (.ineg, 1) := by decide +kernel
theorem dX6_distanceOf_140 : decode cX6_distanceOf 140 = .ok (.iadd, 1) := by decide +kernel
theorem dX6_distanceOf_141 : decode cX6_distanceOf 141 = .ok (.istore 8, 2) := by decide +kernel
theorem dX6_distanceOf_143 : decode cX6_distanceOf 143 = .ok (.aload_n 0, 1) := by decide +kernel
theorem dX6_distanceOf_144 : decode cX6_distanceOf 144 = .ok (.aload_n 0, 1) := by decide +kernel
theorem dX6_distanceOf_145 : decode cX6_distanceOf 145 = .ok (.getfield 71, 3) := by decide +kernel
theorem dX6_distanceOf_148 : decode cX6_distanceOf 148 = .ok (.iload 5, 2) := by decide +kernel
theorem dX6_distanceOf_150 : decode cX6_distanceOf 150 = .ok (.iaload, 1) := by decide +kernel
theorem dX6_distanceOf_151 : decode cX6_distanceOf 151 = .ok (.invokevirtual 174, 3) := by decide +kernel
theorem dX6_distanceOf_154 : decode cX6_distanceOf 154 = .ok (.iload_n 3, 1) := by decide +kernel
theorem dX6_distanceOf_155 : decode cX6_distanceOf 155 = .ok (.ifCond .eq 8, 3) := by decide +kernel
theorem dX6_distanceOf_158 : decode cX6_distanceOf 158 = .ok (.iload 7, 2) := by decide +kernel
theorem dX6_distanceOf_160 : decode cX6_distanceOf 160 = .ok (.goto 6, 3) := by decide +kernel
theorem dX6_distanceOf_163 : decode cX6_distanceOf 163 = .ok (.iload 7, 2) := by decide +kernel
theorem dX6_distanceOf_165 : decode cX6_distanceOf 165 = .ok (.ineg, 1) := by decide +kernel
theorem dX6_distanceOf_166 : decode cX6_distanceOf 166 = .ok (.iadd, 1) := by decide +kernel
theorem dX6_distanceOf_167 : decode cX6_distanceOf 167 = .ok (.istore 9, 2) := by decide +kernel
theorem dX6_distanceOf_169 : decode cX6_distanceOf 169 = .ok (.iload_n 3, 1) := by decide +kernel
theorem dX6_distanceOf_170 : decode cX6_distanceOf 170 = .ok (.iload 8, 2) := by decide +kernel
theorem dX6_distanceOf_172 : decode cX6_distanceOf 172 = .ok (.iload 9, 2) := by decide +kernel
theorem dX6_distanceOf_174 : decode cX6_distanceOf 174 = .ok (.if_icmp .ge 7, 3) := by decide +kernel
theorem dX6_distanceOf_177 : decode cX6_distanceOf 177 = .ok (.iconst 1, 1) := by decide +kernel
theorem dX6_distanceOf_178 : decode cX6_distanceOf 178 = .ok (.goto 4, 3) := by decide +kernel
theorem dX6_distanceOf_181 : decode cX6_distanceOf 181 = .ok (.iconst 0, 1) := by decide +kernel
theorem dX6_distanceOf_182 : decode cX6_distanceOf 182 = .ok (.if_icmp .ne 8, 3) := by decide +kernel
theorem dX6_distanceOf_185 : decode cX6_distanceOf 185 = .ok (.iload 8, 2) := by decide +kernel
theorem dX6_distanceOf_187 : decode cX6_distanceOf 187 = .ok (.goto 5, 3) := by decide +kernel
theorem dX6_distanceOf_190 : decode cX6_distanceOf 190 = .ok (.iload 9, 2) := by decide +kernel
theorem dX6_distanceOf_192 : decode cX6_distanceOf 192 = .ok (.istore 10, 2) := by decide +kernel
theorem dX6_distanceOf_194 : decode cX6_distanceOf 194 = .ok (.iload 10, 2) := by decide +kernel
theorem dX6_distanceOf_196 : decode cX6_distanceOf 196 = .ok (.ifCond .ge 7, 3) := by decide +kernel
theorem dX6_distanceOf_199 : decode cX6_distanceOf 199 = .ok (.iconst 0, 1) := by decide +kernel
theorem dX6_distanceOf_200 : decode cX6_distanceOf 200 = .ok (.goto 5, 3) := by decide +kernel
theorem dX6_distanceOf_203 : decode cX6_distanceOf 203 = .ok (.iload 10, 2) := by decide +kernel
theorem dX6_distanceOf_205 : decode cX6_distanceOf 205 = .ok (.ireturn, 1) := by decide +kernel
set_option maxRecDepth 20000 in
theorem ggX6_distance_X6_isShip : GoodIn wsX6_distance wsX6_isShip := goodIn_r _ [6, 7, 8, 9, 5, 10, 27, 28, 29, 30, 31, 32, 33, 34, 35, 36, 37, 38, 39, 40, 41, 42, 43, 44, 45, 46, 47, 48, 49, 50, 51, 52, 53, 54, 55, 56, 57] (by decide +kernel) (by decide +kernel)
set_option maxRecDepth 20000 in
theorem gX6_distance_X6_isShip : GoodIn wsX6_distance (wsV RX6 116 RX6 yX6_isShip wsX6_isShip) := goodIn_app (goodIn_of _ (by decide +kernel)) ggX6_distance_X6_isShip
set_option maxRecDepth 20000 in
theorem ggX6_distance_X6_in : GoodIn wsX6_distance wsX6_in := goodIn_r _ [10] (by decide +kernel) (by decide +kernel)
set_option maxRecDepth 20000 in
theorem gX6_distance_X6_in : GoodIn wsX6_distance (va_wsS RX6 87 yX6_in wsX6_in) := goodIn_app (goodIn_of _ (by decide +kernel)) ggX6_distance_X6_in
set_option maxRecDepth 20000 in
theorem ggX6_distance_X6_distanceOf : GoodIn wsX6_distance wsX6_distanceOf := goodIn_r _ [14, 15, 16, 17, 18, 19, 20, 21, 5, 22, 23, 24, 25, 26, 27, 28, 29, 30, 31, 32, 33, 34, 35, 36, 37, 38, 39, 40, 41, 42, 43, 44, 45, 46, 47, 48, 49, 50, 51, 52, 53, 54, 55, 56, 57] (by decide +kernel) (by decide +kernel)
set_option maxRecDepth 20000 in
theorem gX6_distance_X6_distanceOf : GoodIn wsX6_distance (wsV RX6 177 RX6 yX6_distanceOf wsX6_distanceOf) := goodIn_app (goodIn_of _ (by decide +kernel)) ggX6_distance_X6_distanceOf
theorem dX6_distance_0 : decode cX6_distance 0 = .ok (.aload_n 0, 1) := by decide +kernel
theorem dX6_distance_1 : decode cX6_distance 1 = .ok (.iload_n 1, 1) := by decide +kernel
theorem dX6_distance_2 : decode cX6_distance 2 = .ok (.invokevirtual 116, 3) := by decide +kernel
theorem dX6_distance_5 : decode cX6_distance 5 = .ok (.ifCond .eq 23, 3) := by decide +kernel
theorem dX6_distance_8 : decode cX6_distance 8 = .ok (.iload_n 2, 1) := by decide +kernel
theorem dX6_distance_9 : decode cX6_distance 9 = .ok (.iconst 0, 1) := by decide +kernel
theorem dX6_distance_10 : decode cX6_distance 10 = .ok (.ldc 152, 2) := by decide +kernel
theorem dX6_distance_12 : decode cX6_distance 12 = .ok (.invokestatic 87, 3) := by decide +kernel
theorem dX6_distance_15 : decode cX6_distance 15 = .ok (.ifCond .eq 13, 3) := by decide +kernel
theorem dX6_distance_18 : decode cX6_distance 18 = .ok (.aload_n 0, 1) := by decide +kernel
theorem dX6_distance_19 : decode cX6_distance 19 = .ok (.iload_n 1, 1) := by decide +kernel
theorem dX6_distance_20 : decode cX6_distance 20 = .ok (.iload_n 2, 1) := by decide +kernel
theorem dX6_distance_21 : decode cX6_distance 21 = .ok (.iload_n 3, 1) := by decide +kernel
theorem dX6_distance_22 : decode cX6_distance 22 = .ok (.invokevirtual 177, 3) := by decide +kernel
theorem dX6_distance_25 : decode cX6_distance 25 = .ok (.goto 4, 3) := by decide +kernel
theorem dX6_distance_28 : decode cX6_distance 28 = .ok (.iconst (-1), 1) := by decide +kernel
theorem dX6_distance_29 : decode cX6_distance 29 = .ok (.ireturn, 1) := by decide +kernel
set_option maxRecDepth 20000 in
theorem ggX6_ahead_X6_isShip : GoodIn wsX6_ahead wsX6_isShip := goodIn_r _ [6, 7, 8, 9, 5, 10, 27, 28, 29, 30, 31, 32, 33, 34, 35, 36, 37, 38, 39, 40, 41, 42, 43, 44, 45, 46, 47, 48, 49, 50, 51, 52, 53, 54, 55, 56, 57] (by decide +kernel) (by decide +kernel)
set_option maxRecDepth 20000 in
theorem gX6_ahead_X6_isShip : GoodIn wsX6_ahead (wsV RX6 116 RX6 yX6_isShip wsX6_isShip) := goodIn_app (goodIn_of _ (by decide +kernel)) ggX6_ahead_X6_isShip
set_option maxRecDepth 20000 in
theorem ggX6_ahead_X6_in : GoodIn wsX6_ahead wsX6_in := goodIn_r _ [10] (by decide +kernel) (by decide +kernel)
set_option maxRecDepth 20000 in
theorem gX6_ahead_X6_in : GoodIn wsX6_ahead (va_wsS RX6 87 yX6_in wsX6_in) := goodIn_app (goodIn_of _ (by decide +kernel)) ggX6_ahead_X6_in
set_option maxRecDepth 20000 in
theorem ggX6_ahead_X6_distanceOf : GoodIn wsX6_ahead wsX6_distanceOf := goodIn_r _ [14, 15, 16, 17, 18, 19, 20, 21, 5, 22, 23, 24, 25, 26, 27, 28, 29, 30, 31, 32, 33, 34, 35, 36, 37, 38, 39, 40, 41, 42, 43, 44, 45, 46, 47, 48, 49, 50, 51, 52, 53, 54, 55, 56, 57] (by decide +kernel) (by decide +kernel)
set_option maxRecDepth 20000 in
theorem gX6_ahead_X6_distanceOf : GoodIn wsX6_ahead (wsV RX6 177 RX6 yX6_distanceOf wsX6_distanceOf) := goodIn_app (goodIn_of _ (by decide +kernel)) ggX6_ahead_X6_distanceOf
theorem dX6_ahead_0 : decode cX6_ahead 0 = .ok (.aload_n 0, 1) := by decide +kernel
theorem dX6_ahead_1 : decode cX6_ahead 1 = .ok (.iload_n 1, 1) := by decide +kernel
theorem dX6_ahead_2 : decode cX6_ahead 2 = .ok (.invokevirtual 116, 3) := by decide +kernel
theorem dX6_ahead_5 : decode cX6_ahead 5 = .ok (.ifCond .eq 26, 3) := by decide +kernel
theorem dX6_ahead_8 : decode cX6_ahead 8 = .ok (.aload_n 0, 1) := by decide +kernel
theorem dX6_ahead_9 : decode cX6_ahead 9 = .ok (.iload_n 2, 1) := by decide +kernel
theorem dX6_ahead_10 : decode cX6_ahead 10 = .ok (.invokevirtual 116, 3) := by decide +kernel
theorem dX6_ahead_13 : decode cX6_ahead 13 = .ok (.ifCond .eq 18, 3) := by decide +kernel
theorem dX6_ahead_16 : decode cX6_ahead 16 = .ok (.iload_n 1, 1) := by decide +kernel
theorem dX6_ahead_17 : decode cX6_ahead 17 = .ok (.iload_n 2, 1) := by decide +kernel
theorem dX6_ahead_18 : decode cX6_ahead 18 = .ok (.if_icmp .eq 13, 3) := by decide +kernel
theorem dX6_ahead_21 : decode cX6_ahead 21 = .ok (.iload_n 3, 1) := by decide +kernel
theorem dX6_ahead_22 : decode cX6_ahead 22 = .ok (.iconst 0, 1) := by decide +kernel
theorem dX6_ahead_23 : decode cX6_ahead 23 = .ok (.ldc 152, 2) := by decide +kernel
theorem dX6_ahead_25 : decode cX6_ahead 25 = .ok (.invokestatic 87, 3) := by decide +kernel
theorem dX6_ahead_28 : decode cX6_ahead 28 = .ok (.ifCond .ne 5, 3) := by decide +kernel
theorem dX6_ahead_31 : decode cX6_ahead 31 = .ok (.iconst (-1), 1) := by decide +kernel
theorem dX6_ahead_32 : decode cX6_ahead 32 = .ok (.ireturn, 1) := by decide +kernel
theorem dX6_ahead_33 : decode cX6_ahead 33 = .ok (.aload_n 0, 1) := by decide +kernel
theorem dX6_ahead_34 : decode cX6_ahead 34 = .ok (.iload_n 1, 1) := by decide +kernel
theorem dX6_ahead_35 : decode cX6_ahead 35 = .ok (.iload_n 3, 1) := by decide +kernel
theorem dX6_ahead_36 : decode cX6_ahead 36 = .ok (.iconst 0, 1) := by decide +kernel
theorem dX6_ahead_37 : decode cX6_ahead 37 = .ok (.invokevirtual 177, 3) := by decide +kernel
theorem dX6_ahead_40 : decode cX6_ahead 40 = .ok (.istore 4, 2) := by decide +kernel
theorem dX6_ahead_42 : decode cX6_ahead 42 = .ok (.aload_n 0, 1) := by decide +kernel
theorem dX6_ahead_43 : decode cX6_ahead 43 = .ok (.iload_n 2, 1) := by decide +kernel
theorem dX6_ahead_44 : decode cX6_ahead 44 = .ok (.iload_n 3, 1) := by decide +kernel
theorem dX6_ahead_45 : decode cX6_ahead 45 = .ok (.iconst 0, 1) := by decide +kernel
theorem dX6_ahead_46 : decode cX6_ahead 46 = .ok (.invokevirtual 177, 3) := by decide +kernel
theorem dX6_ahead_49 : decode cX6_ahead 49 = .ok (.istore 5, 2) := by decide +kernel
theorem dX6_ahead_51 : decode cX6_ahead 51 = .ok (.iload 4, 2) := by decide +kernel
theorem dX6_ahead_53 : decode cX6_ahead 53 = .ok (.bipush (-9), 2) := by decide +kernel
theorem dX6_ahead_55 : decode cX6_ahead 55 = .ok (.if_icmp .eq 10, 3) := by decide +kernel
theorem dX6_ahead_58 : decode cX6_ahead 58 = .ok (.iload 5, 2) := by decide +kernel
theorem dX6_ahead_60 : decode cX6_ahead 60 = .ok (.bipush (-9), 2) := by decide +kernel
theorem dX6_ahead_62 : decode cX6_ahead 62 = .ok (.if_icmp .ne 6, 3) := by decide +kernel
theorem dX6_ahead_65 : decode cX6_ahead 65 = .ok (.bipush (-9), 2) := by decide +kernel
theorem dX6_ahead_67 : decode cX6_ahead 67 = .ok (.ireturn, 1) := by decide +kernel
theorem dX6_ahead_68 : decode cX6_ahead 68 = .ok (.aload_n 0, 1) := by decide +kernel
theorem dX6_ahead_69 : decode cX6_ahead 69 = .ok (.iload_n 1, 1) := by decide +kernel
theorem dX6_ahead_70 : decode cX6_ahead 70 = .ok (.iload_n 3, 1) := by decide +kernel
theorem dX6_ahead_71 : decode cX6_ahead 71 = .ok (.iconst 1, 1) := by decide +kernel
theorem dX6_ahead_72 : decode cX6_ahead 72 = .ok (.invokevirtual 177, 3) := by decide +kernel
theorem dX6_ahead_75 : decode cX6_ahead 75 = .ok (.iload 5, 2) := by decide +kernel
theorem dX6_ahead_77 : decode cX6_ahead 77 = .ok (.if_icmp .ge 7, 3) := by decide +kernel
theorem dX6_ahead_80 : decode cX6_ahead 80 = .ok (.iconst 0, 1) := by decide +kernel
theorem dX6_ahead_81 : decode cX6_ahead 81 = .ok (.goto 20, 3) := by decide +kernel
theorem dX6_ahead_84 : decode cX6_ahead 84 = .ok (.aload_n 0, 1) := by decide +kernel
theorem dX6_ahead_85 : decode cX6_ahead 85 = .ok (.iload_n 2, 1) := by decide +kernel
theorem dX6_ahead_86 : decode cX6_ahead 86 = .ok (.iload_n 3, 1) := by decide +kernel
theorem dX6_ahead_87 : decode cX6_ahead 87 = .ok (.iconst 1, 1) := by decide +kernel
theorem dX6_ahead_88 : decode cX6_ahead 88 = .ok (.invokevirtual 177, 3) := by decide +kernel
theorem dX6_ahead_91 : decode cX6_ahead 91 = .ok (.iload 4, 2) := by decide +kernel
theorem dX6_ahead_93 : decode cX6_ahead 93 = .ok (.if_icmp .ge 7, 3) := by decide +kernel
theorem dX6_ahead_96 : decode cX6_ahead 96 = .ok (.iconst 1, 1) := by decide +kernel
theorem dX6_ahead_97 : decode cX6_ahead 97 = .ok (.goto 4, 3) := by decide +kernel
theorem dX6_ahead_100 : decode cX6_ahead 100 = .ok (.iconst 2, 1) := by decide +kernel
theorem dX6_ahead_101 : decode cX6_ahead 101 = .ok (.ireturn, 1) := by decide +kernel
set_option maxRecDepth 20000 in
theorem ggX6_charter_X6_isShip : GoodIn wsX6_charter wsX6_isShip := goodIn_r _ [8, 9, 10, 11, 7, 12, 13, 14, 15, 16, 17, 18, 19, 20, 21, 22, 23, 24, 25, 26, 27, 28, 29, 30, 31, 32, 33, 34, 35, 36, 37, 38, 39, 40, 41, 42, 43] (by decide +kernel) (by decide +kernel)
set_option maxRecDepth 20000 in
theorem gX6_charter_X6_isShip : GoodIn wsX6_charter (wsV RX6 116 RX6 yX6_isShip wsX6_isShip) := goodIn_app (goodIn_of _ (by decide +kernel)) ggX6_charter_X6_isShip
set_option maxRecDepth 20000 in
theorem ggX6_charter_X6_in : GoodIn wsX6_charter wsX6_in := goodIn_r _ [12] (by decide +kernel) (by decide +kernel)
set_option maxRecDepth 20000 in
theorem gX6_charter_X6_in : GoodIn wsX6_charter (va_wsS RX6 87 yX6_in wsX6_in) := goodIn_app (goodIn_of _ (by decide +kernel)) ggX6_charter_X6_in
theorem dX6_charter_0 : decode cX6_charter 0 = .ok (.aload_n 0, 1) := by decide +kernel
theorem dX6_charter_1 : decode cX6_charter 1 = .ok (.iload_n 1, 1) := by decide +kernel
theorem dX6_charter_2 : decode cX6_charter 2 = .ok (.invokevirtual 116, 3) := by decide +kernel
theorem dX6_charter_5 : decode cX6_charter 5 = .ok (.ifCond .eq 24, 3) := by decide +kernel
theorem dX6_charter_8 : decode cX6_charter 8 = .ok (.iload_n 2, 1) := by decide +kernel
theorem dX6_charter_9 : decode cX6_charter 9 = .ok (.iconst 0, 1) := by decide +kernel
theorem dX6_charter_10 : decode cX6_charter 10 = .ok (.sipush 1000, 3) := by decide +kernel
theorem dX6_charter_13 : decode cX6_charter 13 = .ok (.invokestatic 87, 3) := by decide +kernel
theorem dX6_charter_16 : decode cX6_charter 16 = .ok (.ifCond .eq 13, 3) := by decide +kernel
theorem dX6_charter_19 : decode cX6_charter 19 = .ok (.iload_n 3, 1) := by decide +kernel
theorem dX6_charter_20 : decode cX6_charter 20 = .ok (.iconst 0, 1) := by decide +kernel
theorem dX6_charter_21 : decode cX6_charter 21 = .ok (.ldc 152, 2) := by decide +kernel
theorem dX6_charter_23 : decode cX6_charter 23 = .ok (.invokestatic 87, 3) := by decide +kernel
theorem dX6_charter_26 : decode cX6_charter 26 = .ok (.ifCond .ne 5, 3) := by decide +kernel
theorem dX6_charter_29 : decode cX6_charter 29 = .ok (.iconst (-1), 1) := by decide +kernel
theorem dX6_charter_30 : decode cX6_charter 30 = .ok (.ireturn, 1) := by decide +kernel
theorem dX6_charter_31 : decode cX6_charter 31 = .ok (.aload_n 0, 1) := by decide +kernel
theorem dX6_charter_32 : decode cX6_charter 32 = .ok (.getfield 56, 3) := by decide +kernel
theorem dX6_charter_35 : decode cX6_charter 35 = .ok (.iload_n 1, 1) := by decide +kernel
theorem dX6_charter_36 : decode cX6_charter 36 = .ok (.iload_n 2, 1) := by decide +kernel
theorem dX6_charter_37 : decode cX6_charter 37 = .ok (.iastore, 1) := by decide +kernel
theorem dX6_charter_38 : decode cX6_charter 38 = .ok (.aload_n 0, 1) := by decide +kernel
theorem dX6_charter_39 : decode cX6_charter 39 = .ok (.getfield 59, 3) := by decide +kernel
theorem dX6_charter_42 : decode cX6_charter 42 = .ok (.iload_n 1, 1) := by decide +kernel
theorem dX6_charter_43 : decode cX6_charter 43 = .ok (.iload_n 3, 1) := by decide +kernel
theorem dX6_charter_44 : decode cX6_charter 44 = .ok (.iastore, 1) := by decide +kernel
theorem dX6_charter_45 : decode cX6_charter 45 = .ok (.iconst 1, 1) := by decide +kernel
theorem dX6_charter_46 : decode cX6_charter 46 = .ok (.ireturn, 1) := by decide +kernel
set_option maxRecDepth 20000 in
theorem ggX6_freight_X6_isShip : GoodIn wsX6_freight wsX6_isShip := goodIn_r _ [9, 10, 11, 12, 8, 13, 23, 24, 25, 26, 27, 28, 29, 30, 31, 32, 33, 34, 35, 36, 37, 38, 39, 40, 41, 42, 43, 44, 45, 46, 47, 48, 49, 50, 51, 52, 53] (by decide +kernel) (by decide +kernel)
set_option maxRecDepth 20000 in
theorem gX6_freight_X6_isShip : GoodIn wsX6_freight (wsV RX6 116 RX6 yX6_isShip wsX6_isShip) := goodIn_app (goodIn_of _ (by decide +kernel)) ggX6_freight_X6_isShip
set_option maxRecDepth 20000 in
theorem ggX6_freight_X6_firstShip : GoodIn wsX6_freight wsX6_firstShip := goodIn_r _ [17, 10, 1, 18, 19, 20, 8, 21, 22, 23, 24, 25, 26, 27, 28, 29, 30, 31, 32, 33, 34, 35, 36, 37, 38, 39, 40, 41, 42, 43, 44, 45, 46, 47, 48, 49, 50, 51, 52, 53] (by decide +kernel) (by decide +kernel)
set_option maxRecDepth 20000 in
theorem gX6_freight_X6_firstShip : GoodIn wsX6_freight (wsV RX6 160 RX6 yX6_firstShip wsX6_firstShip) := goodIn_app (goodIn_of _ (by decide +kernel)) ggX6_freight_X6_firstShip
theorem dX6_freight_0 : decode cX6_freight 0 = .ok (.aload_n 0, 1) := by decide +kernel
theorem dX6_freight_1 : decode cX6_freight 1 = .ok (.iload_n 1, 1) := by decide +kernel
theorem dX6_freight_2 : decode cX6_freight 2 = .ok (.invokevirtual 116, 3) := by decide +kernel
theorem dX6_freight_5 : decode cX6_freight 5 = .ok (.ifCond .ne 5, 3) := by decide +kernel
theorem dX6_freight_8 : decode cX6_freight 8 = .ok (.iconst (-1), 1) := by decide +kernel
theorem dX6_freight_9 : decode cX6_freight 9 = .ok (.ireturn, 1) := by decide +kernel
theorem dX6_freight_10 : decode cX6_freight 10 = .ok (.aload_n 0, 1) := by decide +kernel
theorem dX6_freight_11 : decode cX6_freight 11 = .ok (.getfield 38, 3) := by decide +kernel
theorem dX6_freight_14 : decode cX6_freight 14 = .ok (.iload_n 1, 1) := by decide +kernel
theorem dX6_freight_15 : decode cX6_freight 15 = .ok (.iaload, 1) := by decide +kernel
theorem dX6_freight_16 : decode cX6_freight 16 = .ok (.bipush (-9), 2) := by decide +kernel
theorem dX6_freight_18 : decode cX6_freight 18 = .ok (.if_icmp .ne 6, 3) := by decide +kernel
theorem dX6_freight_21 : decode cX6_freight 21 = .ok (.bipush (-4), 2) := by decide +kernel
theorem dX6_freight_23 : decode cX6_freight 23 = .ok (.ireturn, 1) := by decide +kernel
theorem dX6_freight_24 : decode cX6_freight 24 = .ok (.aload_n 0, 1) := by decide +kernel
theorem dX6_freight_25 : decode cX6_freight 25 = .ok (.getfield 41, 3) := by decide +kernel
theorem dX6_freight_28 : decode cX6_freight 28 = .ok (.iload_n 1, 1) := by decide +kernel
theorem dX6_freight_29 : decode cX6_freight 29 = .ok (.iaload, 1) := by decide +kernel
theorem dX6_freight_30 : decode cX6_freight 30 = .ok (.aload_n 0, 1) := by decide +kernel
theorem dX6_freight_31 : decode cX6_freight 31 = .ok (.getfield 56, 3) := by decide +kernel
theorem dX6_freight_34 : decode cX6_freight 34 = .ok (.iload_n 1, 1) := by decide +kernel
theorem dX6_freight_35 : decode cX6_freight 35 = .ok (.iaload, 1) := by decide +kernel
theorem dX6_freight_36 : decode cX6_freight 36 = .ok (.imul, 1) := by decide +kernel
theorem dX6_freight_37 : decode cX6_freight 37 = .ok (.aload_n 0, 1) := by decide +kernel
theorem dX6_freight_38 : decode cX6_freight 38 = .ok (.invokevirtual 160, 3) := by decide +kernel
theorem dX6_freight_41 : decode cX6_freight 41 = .ok (.iload_n 1, 1) := by decide +kernel
theorem dX6_freight_42 : decode cX6_freight 42 = .ok (.if_icmp .ne 12, 3) := by decide +kernel
theorem dX6_freight_45 : decode cX6_freight 45 = .ok (.aload_n 0, 1) := by decide +kernel
theorem dX6_freight_46 : decode cX6_freight 46 = .ok (.getfield 59, 3) := by decide +kernel
theorem dX6_freight_49 : decode cX6_freight 49 = .ok (.iload_n 1, 1) := by decide +kernel
theorem dX6_freight_50 : decode cX6_freight 50 = .ok (.iaload, 1) := by decide +kernel
theorem dX6_freight_51 : decode cX6_freight 51 = .ok (.goto 4, 3) := by decide +kernel
theorem dX6_freight_54 : decode cX6_freight 54 = .ok (.iconst 0, 1) := by decide +kernel
theorem dX6_freight_55 : decode cX6_freight 55 = .ok (.iadd, 1) := by decide +kernel
theorem dX6_freight_56 : decode cX6_freight 56 = .ok (.ireturn, 1) := by decide +kernel
set_option maxRecDepth 20000 in
theorem ggX6_market_X6_in : GoodIn wsX6_market wsX6_in := goodIn_r _ [6] (by decide +kernel) (by decide +kernel)
set_option maxRecDepth 20000 in
theorem gX6_market_X6_in : GoodIn wsX6_market (va_wsS RX6 87 yX6_in wsX6_in) := goodIn_app (goodIn_of _ (by decide +kernel)) ggX6_market_X6_in
theorem dX6_market_0 : decode cX6_market 0 = .ok (.iload_n 1, 1) := by decide +kernel
theorem dX6_market_1 : decode cX6_market 1 = .ok (.iconst 1, 1) := by decide +kernel
theorem dX6_market_2 : decode cX6_market 2 = .ok (.sipush 10000, 3) := by decide +kernel
theorem dX6_market_5 : decode cX6_market 5 = .ok (.invokestatic 87, 3) := by decide +kernel
theorem dX6_market_8 : decode cX6_market 8 = .ok (.ifCond .eq 14, 3) := by decide +kernel
theorem dX6_market_11 : decode cX6_market 11 = .ok (.iload_n 2, 1) := by decide +kernel
theorem dX6_market_12 : decode cX6_market 12 = .ok (.iconst 0, 1) := by decide +kernel
theorem dX6_market_13 : decode cX6_market 13 = .ok (.sipush 1000, 3) := by decide +kernel
theorem dX6_market_16 : decode cX6_market 16 = .ok (.invokestatic 87, 3) := by decide +kernel
theorem dX6_market_19 : decode cX6_market 19 = .ok (.ifCond .ne 5, 3) := by decide +kernel
theorem dX6_market_22 : decode cX6_market 22 = .ok (.iconst (-1), 1) := by decide +kernel
theorem dX6_market_23 : decode cX6_market 23 = .ok (.ireturn, 1) := by decide +kernel
theorem dX6_market_24 : decode cX6_market 24 = .ok (.aload_n 0, 1) := by decide +kernel
theorem dX6_market_25 : decode cX6_market 25 = .ok (.iload_n 1, 1) := by decide +kernel
theorem dX6_market_26 : decode cX6_market 26 = .ok (.putfield 77, 3) := by decide +kernel
theorem dX6_market_29 : decode cX6_market 29 = .ok (.aload_n 0, 1) := by decide +kernel
theorem dX6_market_30 : decode cX6_market 30 = .ok (.iload_n 2, 1) := by decide +kernel
theorem dX6_market_31 : decode cX6_market 31 = .ok (.putfield 81, 3) := by decide +kernel
theorem dX6_market_34 : decode cX6_market 34 = .ok (.iconst 1, 1) := by decide +kernel
theorem dX6_market_35 : decode cX6_market 35 = .ok (.ireturn, 1) := by decide +kernel
set_option maxRecDepth 20000 in
theorem ggX6_priceFor_X6_entryOf : GoodIn wsX6_priceFor wsX6_entryOf := goodIn_r _ [10, 2, 11, 12, 13, 14, 15, 16, 17, 18, 19, 20, 21, 22, 23, 24, 25, 26, 27, 28, 29, 30, 31, 32, 33, 34, 35, 36, 37, 38, 39, 40, 41, 42] (by decide +kernel) (by decide +kernel)
set_option maxRecDepth 20000 in
theorem gX6_priceFor_X6_entryOf : GoodIn wsX6_priceFor (wsV RX6 122 RX6 yX6_entryOf wsX6_entryOf) := goodIn_app (goodIn_of _ (by decide +kernel)) ggX6_priceFor_X6_entryOf
theorem dX6_priceFor_0 : decode cX6_priceFor 0 = .ok (.iconst 0, 1) := by decide +kernel
theorem dX6_priceFor_1 : decode cX6_priceFor 1 = .ok (.istore_n 2, 1) := by decide +kernel
theorem dX6_priceFor_2 : decode cX6_priceFor 2 = .ok (.iconst 0, 1) := by decide +kernel
theorem dX6_priceFor_3 : decode cX6_priceFor 3 = .ok (.istore_n 3, 1) := by decide +kernel
theorem dX6_priceFor_4 : decode cX6_priceFor 4 = .ok (.iload_n 3, 1) := by decide +kernel
theorem dX6_priceFor_5 : decode cX6_priceFor 5 = .ok (.aload_n 0, 1) := by decide +kernel
theorem dX6_priceFor_6 : decode cX6_priceFor 6 = .ok (.getfield 110, 3) := by decide +kernel
theorem dX6_priceFor_9 : decode cX6_priceFor 9 = .ok (.if_icmp .ge 76, 3) := by decide +kernel
theorem dX6_priceFor_12 : decode cX6_priceFor 12 = .ok (.aload_n 0, 1) := by decide +kernel
theorem dX6_priceFor_13 : decode cX6_priceFor 13 = .ok (.getfield 38, 3) := by decide +kernel
theorem dX6_priceFor_16 : decode cX6_priceFor 16 = .ok (.iload_n 3, 1) := by decide +kernel
theorem dX6_priceFor_17 : decode cX6_priceFor 17 = .ok (.iaload, 1) := by decide +kernel
theorem dX6_priceFor_18 : decode cX6_priceFor 18 = .ok (.bipush (-9), 2) := by decide +kernel
theorem dX6_priceFor_20 : decode cX6_priceFor 20 = .ok (.if_icmp .eq 38, 3) := by decide +kernel
theorem dX6_priceFor_23 : decode cX6_priceFor 23 = .ok (.aload_n 0, 1) := by decide +kernel
theorem dX6_priceFor_24 : decode cX6_priceFor 24 = .ok (.iload_n 3, 1) := by decide +kernel
theorem dX6_priceFor_25 : decode cX6_priceFor 25 = .ok (.invokevirtual 122, 3) := by decide +kernel
theorem dX6_priceFor_28 : decode cX6_priceFor 28 = .ok (.aload_n 0, 1) := by decide +kernel
theorem dX6_priceFor_29 : decode cX6_priceFor 29 = .ok (.iload_n 1, 1) := by decide +kernel
theorem dX6_priceFor_30 : decode cX6_priceFor 30 = .ok (.invokevirtual 122, 3) := by decide +kernel
theorem dX6_priceFor_33 : decode cX6_priceFor 33 = .ok (.if_icmp .lt 21, 3) := by decide +kernel
theorem dX6_priceFor_36 : decode cX6_priceFor 36 = .ok (.aload_n 0, 1) := by decide +kernel
theorem dX6_priceFor_37 : decode cX6_priceFor 37 = .ok (.iload_n 3, 1) := by decide +kernel
theorem dX6_priceFor_38 : decode cX6_priceFor 38 = .ok (.invokevirtual 122, 3) := by decide +kernel
theorem dX6_priceFor_41 : decode cX6_priceFor 41 = .ok (.aload_n 0, 1) := by decide +kernel
theorem dX6_priceFor_42 : decode cX6_priceFor 42 = .ok (.iload_n 1, 1) := by decide +kernel
theorem dX6_priceFor_43 : decode cX6_priceFor 43 = .ok (.invokevirtual 122, 3) := by decide +kernel
theorem dX6_priceFor_46 : decode cX6_priceFor 46 = .ok (.if_icmp .ne 12, 3) := by decide +kernel
theorem dX6_priceFor_49 : decode cX6_priceFor 49 = .ok (.iload_n 3, 1) := by decide +kernel
theorem dX6_priceFor_50 : decode cX6_priceFor 50 = .ok (.iload_n 1, 1) := by decide +kernel
theorem dX6_priceFor_51 : decode cX6_priceFor 51 = .ok (.if_icmp .ge 7, 3) := by decide +kernel
theorem dX6_priceFor_54 : decode cX6_priceFor 54 = .ok (.iconst 1, 1) := by decide +kernel
theorem dX6_priceFor_55 : decode cX6_priceFor 55 = .ok (.goto 4, 3) := by decide +kernel
theorem dX6_priceFor_58 : decode cX6_priceFor 58 = .ok (.iconst 0, 1) := by decide +kernel
theorem dX6_priceFor_59 : decode cX6_priceFor 59 = .ok (.istore 4, 2) := by decide +kernel
theorem dX6_priceFor_61 : decode cX6_priceFor 61 = .ok (.iload_n 2, 1) := by decide +kernel
theorem dX6_priceFor_62 : decode cX6_priceFor 62 = .ok (.iload 4, 2) := by decide +kernel
theorem dX6_priceFor_64 : decode cX6_priceFor 64 = .ok (.ifCond .eq 12, 3) := by decide +kernel
theorem dX6_priceFor_67 : decode cX6_priceFor 67 = .ok (.aload_n 0, 1) := by decide +kernel
theorem dX6_priceFor_68 : decode cX6_priceFor 68 = .ok (.getfield 41, 3) := by decide +kernel
theorem dX6_priceFor_71 : decode cX6_priceFor 71 = .ok (.iload_n 3, 1) := by decide +kernel
theorem dX6_priceFor_72 : decode cX6_priceFor 72 = .ok (.iaload, 1) := by decide +kernel
theorem dX6_priceFor_73 : decode cX6_priceFor 73 = .ok (.goto 4, 3) := by decide +kernel
theorem dX6_priceFor_76 : decode cX6_priceFor 76 = .ok (.iconst 0, 1) := by decide +kernel
theorem dX6_priceFor_77 : decode cX6_priceFor 77 = .ok (.iadd, 1) := by decide +kernel
theorem dX6_priceFor_78 : decode cX6_priceFor 78 = .ok (.istore_n 2, 1) := by decide +kernel
theorem dX6_priceFor_79 : decode cX6_priceFor 79 = .ok (.iinc 3 1, 3) := by decide +kernel
theorem dX6_priceFor_82 : decode cX6_priceFor 82 = .ok (.goto (-78), 3) := by decide +kernel
theorem dX6_priceFor_85 : decode cX6_priceFor 85 = .ok (.aload_n 0, 1) := by decide +kernel
theorem dX6_priceFor_86 : decode cX6_priceFor 86 = .ok (.getfield 77, 3) := by decide +kernel
theorem dX6_priceFor_89 : decode cX6_priceFor 89 = .ok (.aload_n 0, 1) := by decide +kernel
theorem dX6_priceFor_90 : decode cX6_priceFor 90 = .ok (.getfield 81, 3) := by decide +kernel
theorem dX6_priceFor_93 : decode cX6_priceFor 93 = .ok (.iload_n 2, 1) := by decide +kernel
theorem dX6_priceFor_94 : decode cX6_priceFor 94 = .ok (.bipush 99, 2) := by decide +kernel
theorem dX6_priceFor_96 : decode cX6_priceFor 96 = .ok (.iadd, 1) := by decide +kernel
theorem dX6_priceFor_97 : decode cX6_priceFor 97 = .ok (.bipush 100, 2) := by decide +kernel
theorem dX6_priceFor_99 : decode cX6_priceFor 99 = .ok (.idiv, 1) := by decide +kernel
theorem dX6_priceFor_100 : decode cX6_priceFor 100 = .ok (.imul, 1) := by decide +kernel
theorem dX6_priceFor_101 : decode cX6_priceFor 101 = .ok (.isub, 1) := by decide +kernel
theorem dX6_priceFor_102 : decode cX6_priceFor 102 = .ok (.istore_n 3, 1) := by decide +kernel
theorem dX6_priceFor_103 : decode cX6_priceFor 103 = .ok (.iload_n 3, 1) := by decide +kernel
theorem dX6_priceFor_104 : decode cX6_priceFor 104 = .ok (.iconst 1, 1) := by decide +kernel
theorem dX6_priceFor_105 : decode cX6_priceFor 105 = .ok (.if_icmp .ge 7, 3) := by decide +kernel
theorem dX6_priceFor_108 : decode cX6_priceFor 108 = .ok (.iconst 1, 1) := by decide +kernel
theorem dX6_priceFor_109 : decode cX6_priceFor 109 = .ok (.goto 4, 3) := by decide +kernel
theorem dX6_priceFor_112 : decode cX6_priceFor 112 = .ok (.iload_n 3, 1) := by decide +kernel
theorem dX6_priceFor_113 : decode cX6_priceFor 113 = .ok (.ireturn, 1) := by decide +kernel
set_option maxRecDepth 20000 in
theorem ggX6_sale_X6_isShip : GoodIn wsX6_sale wsX6_isShip := goodIn_r _ [8, 9, 10, 11, 7, 12, 24, 25, 26, 27, 28, 29, 30, 31, 32, 33, 34, 35, 36, 37, 38, 39, 40, 41, 42, 43, 44, 45, 46, 47, 48, 49, 50, 51, 52, 53, 54] (by decide +kernel) (by decide +kernel)
set_option maxRecDepth 20000 in
theorem gX6_sale_X6_isShip : GoodIn wsX6_sale (wsV RX6 116 RX6 yX6_isShip wsX6_isShip) := goodIn_app (goodIn_of _ (by decide +kernel)) ggX6_sale_X6_isShip
set_option maxRecDepth 20000 in
theorem ggX6_sale_X6_priceFor : GoodIn wsX6_sale wsX6_priceFor := goodIn_r _ [16, 9, 1, 2, 17, 18, 19, 20, 21, 7, 22, 23, 24, 25, 26, 27, 28, 29, 30, 31, 32, 33, 34, 35, 36, 37, 38, 39, 40, 41, 42, 43, 44, 45, 46, 47, 48, 49, 50, 51, 52, 53, 54] (by decide +kernel) (by decide +kernel)
set_option maxRecDepth 20000 in
theorem gX6_sale_X6_priceFor : GoodIn wsX6_sale (wsV RX6 181 RX6 yX6_priceFor wsX6_priceFor) := goodIn_app (goodIn_of _ (by decide +kernel)) ggX6_sale_X6_priceFor
theorem dX6_sale_0 : decode cX6_sale 0 = .ok (.aload_n 0, 1) := by decide +kernel
theorem dX6_sale_1 : decode cX6_sale 1 = .ok (.iload_n 1, 1) := by decide +kernel
theorem dX6_sale_2 : decode cX6_sale 2 = .ok (.invokevirtual 116, 3) := by decide +kernel
theorem dX6_sale_5 : decode cX6_sale 5 = .ok (.ifCond .ne 5, 3) := by decide +kernel
theorem dX6_sale_8 : decode cX6_sale 8 = .ok (.iconst (-1), 1) := by decide +kernel
theorem dX6_sale_9 : decode cX6_sale 9 = .ok (.ireturn, 1) := by decide +kernel
theorem dX6_sale_10 : decode cX6_sale 10 = .ok (.aload_n 0, 1) := by decide +kernel
theorem dX6_sale_11 : decode cX6_sale 11 = .ok (.getfield 38, 3) := by decide +kernel
theorem dX6_sale_14 : decode cX6_sale 14 = .ok (.iload_n 1, 1) := by decide +kernel
theorem dX6_sale_15 : decode cX6_sale 15 = .ok (.iaload, 1) := by decide +kernel
theorem dX6_sale_16 : decode cX6_sale 16 = .ok (.bipush (-9), 2) := by decide +kernel
theorem dX6_sale_18 : decode cX6_sale 18 = .ok (.if_icmp .ne 6, 3) := by decide +kernel
theorem dX6_sale_21 : decode cX6_sale 21 = .ok (.bipush (-4), 2) := by decide +kernel
theorem dX6_sale_23 : decode cX6_sale 23 = .ok (.ireturn, 1) := by decide +kernel
theorem dX6_sale_24 : decode cX6_sale 24 = .ok (.aload_n 0, 1) := by decide +kernel
theorem dX6_sale_25 : decode cX6_sale 25 = .ok (.iload_n 1, 1) := by decide +kernel
theorem dX6_sale_26 : decode cX6_sale 26 = .ok (.invokevirtual 181, 3) := by decide +kernel
theorem dX6_sale_29 : decode cX6_sale 29 = .ok (.istore_n 2, 1) := by decide +kernel
theorem dX6_sale_30 : decode cX6_sale 30 = .ok (.aload_n 0, 1) := by decide +kernel
theorem dX6_sale_31 : decode cX6_sale 31 = .ok (.iload_n 2, 1) := by decide +kernel
theorem dX6_sale_32 : decode cX6_sale 32 = .ok (.i2l, 1) := by decide +kernel
theorem dX6_sale_33 : decode cX6_sale 33 = .ok (.aload_n 0, 1) := by decide +kernel
theorem dX6_sale_34 : decode cX6_sale 34 = .ok (.getfield 41, 3) := by decide +kernel
theorem dX6_sale_37 : decode cX6_sale 37 = .ok (.iload_n 1, 1) := by decide +kernel
theorem dX6_sale_38 : decode cX6_sale 38 = .ok (.iaload, 1) := by decide +kernel
theorem dX6_sale_39 : decode cX6_sale 39 = .ok (.i2l, 1) := by decide +kernel
theorem dX6_sale_40 : decode cX6_sale 40 = .ok (.lmul, 1) := by decide +kernel
theorem dX6_sale_41 : decode cX6_sale 41 = .ok (.putfield 184, 3) := by decide +kernel
theorem dX6_sale_44 : decode cX6_sale 44 = .ok (.iload_n 2, 1) := by decide +kernel
theorem dX6_sale_45 : decode cX6_sale 45 = .ok (.ireturn, 1) := by decide +kernel
set_option maxRecDepth 20000 in
theorem ggX6_meanPrice_X6_priceFor : GoodIn wsX6_meanPrice wsX6_priceFor := goodIn_r _ [8, 1, 2, 3, 9, 10, 11, 12, 13, 7, 14, 15, 22, 23, 24, 25, 26, 27, 28, 29, 30, 31, 32, 33, 34, 35, 36, 37, 38, 39, 40, 41, 42, 43, 44, 45, 46, 47, 48, 49, 50, 51, 52] (by decide +kernel) (by decide +kernel)
set_option maxRecDepth 20000 in
theorem gX6_meanPrice_X6_priceFor : GoodIn wsX6_meanPrice (wsV RX6 181 RX6 yX6_priceFor wsX6_priceFor) := goodIn_app (goodIn_of _ (by decide +kernel)) ggX6_meanPrice_X6_priceFor
set_option maxRecDepth 20000 in
theorem ggX6_meanPrice_X6_meets : GoodIn wsX6_meanPrice wsX6_meets := goodIn_r _ [19, 20, 21, 22, 23, 24, 25, 26, 27, 28, 29, 30, 31, 32, 33, 34, 35, 36, 37, 38, 39, 40, 41, 42, 43, 44, 45, 46, 47, 48, 49, 50, 51, 52] (by decide +kernel) (by decide +kernel)
set_option maxRecDepth 20000 in
theorem gX6_meanPrice_X6_meets : GoodIn wsX6_meanPrice (wsV RX6 98 RX6 yX6_meets wsX6_meets) := goodIn_app (goodIn_of _ (by decide +kernel)) ggX6_meanPrice_X6_meets
theorem dX6_meanPrice_0 : decode cX6_meanPrice 0 = .ok (.lconst 0, 1) := by decide +kernel
theorem dX6_meanPrice_1 : decode cX6_meanPrice 1 = .ok (.lstore_n 1, 1) := by decide +kernel
theorem dX6_meanPrice_2 : decode cX6_meanPrice 2 = .ok (.lconst 0, 1) := by decide +kernel
theorem dX6_meanPrice_3 : decode cX6_meanPrice 3 = .ok (.lstore_n 3, 1) := by decide +kernel
theorem dX6_meanPrice_4 : decode cX6_meanPrice 4 = .ok (.iconst 0, 1) := by decide +kernel
theorem dX6_meanPrice_5 : decode cX6_meanPrice 5 = .ok (.istore 5, 2) := by decide +kernel
theorem dX6_meanPrice_7 : decode cX6_meanPrice 7 = .ok (.iload 5, 2) := by decide +kernel
theorem dX6_meanPrice_9 : decode cX6_meanPrice 9 = .ok (.aload_n 0, 1) := by decide +kernel
theorem dX6_meanPrice_10 : decode cX6_meanPrice 10 = .ok (.getfield 110, 3) := by decide +kernel
theorem dX6_meanPrice_13 : decode cX6_meanPrice 13 = .ok (.if_icmp .ge 51, 3) := by decide +kernel
theorem dX6_meanPrice_16 : decode cX6_meanPrice 16 = .ok (.aload_n 0, 1) := by decide +kernel
theorem dX6_meanPrice_17 : decode cX6_meanPrice 17 = .ok (.getfield 38, 3) := by decide +kernel
theorem dX6_meanPrice_20 : decode cX6_meanPrice 20 = .ok (.iload 5, 2) := by decide +kernel
theorem dX6_meanPrice_22 : decode cX6_meanPrice 22 = .ok (.iaload, 1) := by decide +kernel
theorem dX6_meanPrice_23 : decode cX6_meanPrice 23 = .ok (.bipush (-9), 2) := by decide +kernel
theorem dX6_meanPrice_25 : decode cX6_meanPrice 25 = .ok (.if_icmp .eq 33, 3) := by decide +kernel
theorem dX6_meanPrice_28 : decode cX6_meanPrice 28 = .ok (.lload_n 1, 1) := by decide +kernel
theorem dX6_meanPrice_29 : decode cX6_meanPrice 29 = .ok (.aload_n 0, 1) := by decide +kernel
theorem dX6_meanPrice_30 : decode cX6_meanPrice 30 = .ok (.iload 5, 2) := by decide +kernel
theorem dX6_meanPrice_32 : decode cX6_meanPrice 32 = .ok (.invokevirtual 181, 3) := by decide +kernel
theorem dX6_meanPrice_35 : decode cX6_meanPrice 35 = .ok (.i2l, 1) := by decide +kernel
theorem dX6_meanPrice_36 : decode cX6_meanPrice 36 = .ok (.aload_n 0, 1) := by decide +kernel
theorem dX6_meanPrice_37 : decode cX6_meanPrice 37 = .ok (.getfield 41, 3) := by decide +kernel
theorem dX6_meanPrice_40 : decode cX6_meanPrice 40 = .ok (.iload 5, 2) := by decide +kernel
theorem dX6_meanPrice_42 : decode cX6_meanPrice 42 = .ok (.iaload, 1) := by decide +kernel
theorem dX6_meanPrice_43 : decode cX6_meanPrice 43 = .ok (.i2l, 1) := by decide +kernel
theorem dX6_meanPrice_44 : decode cX6_meanPrice 44 = .ok (.lmul, 1) := by decide +kernel
theorem dX6_meanPrice_45 : decode cX6_meanPrice 45 = .ok (.ladd, 1) := by decide +kernel
theorem dX6_meanPrice_46 : decode cX6_meanPrice 46 = .ok (.lstore_n 1, 1) := by decide +kernel
theorem dX6_meanPrice_47 : decode cX6_meanPrice 47 = .ok (.lload_n 3, 1) := by decide +kernel
theorem dX6_meanPrice_48 : decode cX6_meanPrice 48 = .ok (.aload_n 0, 1) := by decide +kernel
theorem dX6_meanPrice_49 : decode cX6_meanPrice 49 = .ok (.getfield 41, 3) := by decide +kernel
theorem dX6_meanPrice_52 : decode cX6_meanPrice 52 = .ok (.iload 5, 2) := by decide +kernel
theorem dX6_meanPrice_54 : decode cX6_meanPrice 54 = .ok (.iaload, 1) := by decide +kernel
theorem dX6_meanPrice_55 : decode cX6_meanPrice 55 = .ok (.i2l, 1) := by decide +kernel
theorem dX6_meanPrice_56 : decode cX6_meanPrice 56 = .ok (.ladd, 1) := by decide +kernel
theorem dX6_meanPrice_57 : decode cX6_meanPrice 57 = .ok (.lstore_n 3, 1) := by decide +kernel
theorem dX6_meanPrice_58 : decode cX6_meanPrice 58 = .ok (.iinc 5 1, 3) := by decide +kernel
theorem dX6_meanPrice_61 : decode cX6_meanPrice 61 = .ok (.goto (-54), 3) := by decide +kernel
theorem dX6_meanPrice_64 : decode cX6_meanPrice 64 = .ok (.lload_n 3, 1) := by decide +kernel
theorem dX6_meanPrice_65 : decode cX6_meanPrice 65 = .ok (.lconst 0, 1) := by decide +kernel
theorem dX6_meanPrice_66 : decode cX6_meanPrice 66 = .ok (.lcmp, 1) := by decide +kernel
theorem dX6_meanPrice_67 : decode cX6_meanPrice 67 = .ok (.ifCond .ne 11, 3) := by decide +kernel
theorem dX6_meanPrice_70 : decode cX6_meanPrice 70 = .ok (.aload_n 0, 1) := by decide +kernel
theorem dX6_meanPrice_71 : decode cX6_meanPrice 71 = .ok (.iconst 4, 1) := by decide +kernel
theorem dX6_meanPrice_72 : decode cX6_meanPrice 72 = .ok (.invokevirtual 98, 3) := by decide +kernel
theorem dX6_meanPrice_75 : decode cX6_meanPrice 75 = .ok (.goto 7, 3) := by decide +kernel
theorem dX6_meanPrice_78 : decode cX6_meanPrice 78 = .ok (.lload_n 1, 1) := by decide +kernel
theorem dX6_meanPrice_79 : decode cX6_meanPrice 79 = .ok (.lload_n 3, 1) := by decide +kernel
theorem dX6_meanPrice_80 : decode cX6_meanPrice 80 = .ok (.ldiv, 1) := by decide +kernel
theorem dX6_meanPrice_81 : decode cX6_meanPrice 81 = .ok (.l2i, 1) := by decide +kernel
theorem dX6_meanPrice_82 : decode cX6_meanPrice 82 = .ok (.ireturn, 1) := by decide +kernel
theorem dX6_asked_0 : decode cX6_asked 0 = .ok (.aload_n 0, 1) := by decide +kernel
theorem dX6_asked_1 : decode cX6_asked 1 = .ok (.getfield 184, 3) := by decide +kernel
theorem dX6_asked_4 : decode cX6_asked 4 = .ok (.lreturn, 1) := by decide +kernel
set_option maxRecDepth 20000 in
theorem ggX6_tellsCount_X6_atHome : GoodIn wsX6_tellsCount wsX6_atHome := goodIn_r _ [9, 2, 10, 11, 12, 13, 14, 15, 16, 17, 18, 19, 20, 21, 22, 23, 24, 25, 26, 27, 28, 29, 30, 31, 32, 33, 34, 35, 36, 37, 38, 39, 40, 41] (by decide +kernel) (by decide +kernel)
set_option maxRecDepth 20000 in
theorem gX6_tellsCount_X6_atHome : GoodIn wsX6_tellsCount (wsV RX6 153 RX6 yX6_atHome wsX6_atHome) := goodIn_app (goodIn_of _ (by decide +kernel)) ggX6_tellsCount_X6_atHome
theorem dX6_tellsCount_0 : decode cX6_tellsCount 0 = .ok (.iconst 0, 1) := by decide +kernel
theorem dX6_tellsCount_1 : decode cX6_tellsCount 1 = .ok (.istore_n 2, 1) := by decide +kernel
theorem dX6_tellsCount_2 : decode cX6_tellsCount 2 = .ok (.iconst 0, 1) := by decide +kernel
theorem dX6_tellsCount_3 : decode cX6_tellsCount 3 = .ok (.istore_n 3, 1) := by decide +kernel
theorem dX6_tellsCount_4 : decode cX6_tellsCount 4 = .ok (.iload_n 3, 1) := by decide +kernel
theorem dX6_tellsCount_5 : decode cX6_tellsCount 5 = .ok (.bipush 12, 2) := by decide +kernel
theorem dX6_tellsCount_7 : decode cX6_tellsCount 7 = .ok (.if_icmp .ge 26, 3) := by decide +kernel
theorem dX6_tellsCount_10 : decode cX6_tellsCount 10 = .ok (.iload_n 2, 1) := by decide +kernel
theorem dX6_tellsCount_11 : decode cX6_tellsCount 11 = .ok (.aload_n 0, 1) := by decide +kernel
theorem dX6_tellsCount_12 : decode cX6_tellsCount 12 = .ok (.getfield 17, 3) := by decide +kernel
theorem dX6_tellsCount_15 : decode cX6_tellsCount 15 = .ok (.iload_n 3, 1) := by decide +kernel
theorem dX6_tellsCount_16 : decode cX6_tellsCount 16 = .ok (.baload, 1) := by decide +kernel
theorem dX6_tellsCount_17 : decode cX6_tellsCount 17 = .ok (.ifCond .eq 7, 3) := by decide +kernel
theorem dX6_tellsCount_20 : decode cX6_tellsCount 20 = .ok (.iconst 1, 1) := by decide +kernel
theorem dX6_tellsCount_21 : decode cX6_tellsCount 21 = .ok (.goto 4, 3) := by decide +kernel
theorem dX6_tellsCount_24 : decode cX6_tellsCount 24 = .ok (.iconst 0, 1) := by decide +kernel
theorem dX6_tellsCount_25 : decode cX6_tellsCount 25 = .ok (.iadd, 1) := by decide +kernel
theorem dX6_tellsCount_26 : decode cX6_tellsCount 26 = .ok (.istore_n 2, 1) := by decide +kernel
theorem dX6_tellsCount_27 : decode cX6_tellsCount 27 = .ok (.iinc 3 1, 3) := by decide +kernel
theorem dX6_tellsCount_30 : decode cX6_tellsCount 30 = .ok (.goto (-26), 3) := by decide +kernel
theorem dX6_tellsCount_33 : decode cX6_tellsCount 33 = .ok (.iload_n 1, 1) := by decide +kernel
theorem dX6_tellsCount_34 : decode cX6_tellsCount 34 = .ok (.ifCond .ne 10, 3) := by decide +kernel
theorem dX6_tellsCount_37 : decode cX6_tellsCount 37 = .ok (.aload_n 0, 1) := by decide +kernel
theorem dX6_tellsCount_38 : decode cX6_tellsCount 38 = .ok (.getfield 110, 3) := by decide +kernel
theorem dX6_tellsCount_41 : decode cX6_tellsCount 41 = .ok (.goto 40, 3) := by decide +kernel
theorem dX6_tellsCount_44 : decode cX6_tellsCount 44 = .ok (.iload_n 1, 1) := by decide +kernel
theorem dX6_tellsCount_45 : decode cX6_tellsCount 45 = .ok (.iconst 1, 1) := by decide +kernel
theorem dX6_tellsCount_46 : decode cX6_tellsCount 46 = .ok (.if_icmp .ne 10, 3) := by decide +kernel
theorem dX6_tellsCount_49 : decode cX6_tellsCount 49 = .ok (.aload_n 0, 1) := by decide +kernel
theorem dX6_tellsCount_50 : decode cX6_tellsCount 50 = .ok (.getfield 113, 3) := by decide +kernel
theorem dX6_tellsCount_53 : decode cX6_tellsCount 53 = .ok (.goto 28, 3) := by decide +kernel
theorem dX6_tellsCount_56 : decode cX6_tellsCount 56 = .ok (.iload_n 1, 1) := by decide +kernel
theorem dX6_tellsCount_57 : decode cX6_tellsCount 57 = .ok (.iconst 2, 1) := by decide +kernel
theorem dX6_tellsCount_58 : decode cX6_tellsCount 58 = .ok (.if_icmp .ne 7, 3) := by decide +kernel
theorem dX6_tellsCount_61 : decode cX6_tellsCount 61 = .ok (.iload_n 2, 1) := by decide +kernel
theorem dX6_tellsCount_62 : decode cX6_tellsCount 62 = .ok (.goto 19, 3) := by decide +kernel
theorem dX6_tellsCount_65 : decode cX6_tellsCount 65 = .ok (.iload_n 1, 1) := by decide +kernel
theorem dX6_tellsCount_66 : decode cX6_tellsCount 66 = .ok (.iconst 3, 1) := by decide +kernel
theorem dX6_tellsCount_67 : decode cX6_tellsCount 67 = .ok (.if_icmp .ne 10, 3) := by decide +kernel
theorem dX6_tellsCount_70 : decode cX6_tellsCount 70 = .ok (.aload_n 0, 1) := by decide +kernel
theorem dX6_tellsCount_71 : decode cX6_tellsCount 71 = .ok (.getfield 168, 3) := by decide +kernel
theorem dX6_tellsCount_74 : decode cX6_tellsCount 74 = .ok (.goto 7, 3) := by decide +kernel
theorem dX6_tellsCount_77 : decode cX6_tellsCount 77 = .ok (.aload_n 0, 1) := by decide +kernel
theorem dX6_tellsCount_78 : decode cX6_tellsCount 78 = .ok (.invokevirtual 153, 3) := by decide +kernel
theorem dX6_tellsCount_81 : decode cX6_tellsCount 81 = .ok (.ireturn, 1) := by decide +kernel
set_option maxRecDepth 20000 in
theorem ggX6_count_X6_in : GoodIn wsX6_count wsX6_in := goodIn_r _ [4] (by decide +kernel) (by decide +kernel)
set_option maxRecDepth 20000 in
theorem gX6_count_X6_in : GoodIn wsX6_count (va_wsS RX6 87 yX6_in wsX6_in) := goodIn_app (goodIn_of _ (by decide +kernel)) ggX6_count_X6_in
set_option maxRecDepth 20000 in
theorem ggX6_count_X6_tellsCount : GoodIn wsX6_count wsX6_tellsCount := goodIn_r _ [8, 9, 10, 11, 12, 13, 14, 15, 3, 16, 17, 18, 19, 20, 21, 22, 23, 24, 25, 26, 27, 28, 29, 30, 31, 32, 33, 34, 35, 36, 37, 38, 39, 40, 41, 42, 43, 44, 45, 46, 47, 48] (by decide +kernel) (by decide +kernel)
set_option maxRecDepth 20000 in
theorem gX6_count_X6_tellsCount : GoodIn wsX6_count (wsV RX6 188 RX6 yX6_tellsCount wsX6_tellsCount) := goodIn_app (goodIn_of _ (by decide +kernel)) ggX6_count_X6_tellsCount
theorem dX6_count_0 : decode cX6_count 0 = .ok (.iload_n 1, 1) := by decide +kernel
theorem dX6_count_1 : decode cX6_count 1 = .ok (.iconst 0, 1) := by decide +kernel
theorem dX6_count_2 : decode cX6_count 2 = .ok (.iconst 4, 1) := by decide +kernel
theorem dX6_count_3 : decode cX6_count 3 = .ok (.invokestatic 87, 3) := by decide +kernel
theorem dX6_count_6 : decode cX6_count 6 = .ok (.ifCond .eq 11, 3) := by decide +kernel
theorem dX6_count_9 : decode cX6_count 9 = .ok (.aload_n 0, 1) := by decide +kernel
theorem dX6_count_10 : decode cX6_count 10 = .ok (.iload_n 1, 1) := by decide +kernel
theorem dX6_count_11 : decode cX6_count 11 = .ok (.invokevirtual 188, 3) := by decide +kernel
theorem dX6_count_14 : decode cX6_count 14 = .ok (.goto 4, 3) := by decide +kernel
theorem dX6_count_17 : decode cX6_count 17 = .ok (.iconst (-1), 1) := by decide +kernel
theorem dX6_count_18 : decode cX6_count 18 = .ok (.ireturn, 1) := by decide +kernel
theorem dX6_finding_0 : decode cX6_finding 0 = .ok (.aload_n 0, 1) := by decide +kernel
theorem dX6_finding_1 : decode cX6_finding 1 = .ok (.getfield 84, 3) := by decide +kernel
theorem dX6_finding_4 : decode cX6_finding 4 = .ok (.ireturn, 1) := by decide +kernel
set_option maxRecDepth 20000 in
theorem ggX6_findings_X6_in : GoodIn wsX6_findings wsX6_in := goodIn_r _ [5] (by decide +kernel) (by decide +kernel)
set_option maxRecDepth 20000 in
theorem gX6_findings_X6_in : GoodIn wsX6_findings (va_wsS RX6 87 yX6_in wsX6_in) := goodIn_app (goodIn_of _ (by decide +kernel)) ggX6_findings_X6_in
theorem dX6_findings_0 : decode cX6_findings 0 = .ok (.iload_n 1, 1) := by decide +kernel
theorem dX6_findings_1 : decode cX6_findings 1 = .ok (.iconst 1, 1) := by decide +kernel
theorem dX6_findings_2 : decode cX6_findings 2 = .ok (.iconst 5, 1) := by decide +kernel
theorem dX6_findings_3 : decode cX6_findings 3 = .ok (.invokestatic 87, 3) := by decide +kernel
theorem dX6_findings_6 : decode cX6_findings 6 = .ok (.ifCond .eq 12, 3) := by decide +kernel
theorem dX6_findings_9 : decode cX6_findings 9 = .ok (.aload_n 0, 1) := by decide +kernel
theorem dX6_findings_10 : decode cX6_findings 10 = .ok (.getfield 7, 3) := by decide +kernel
theorem dX6_findings_13 : decode cX6_findings 13 = .ok (.iload_n 1, 1) := by decide +kernel
theorem dX6_findings_14 : decode cX6_findings 14 = .ok (.iaload, 1) := by decide +kernel
theorem dX6_findings_15 : decode cX6_findings 15 = .ok (.goto 4, 3) := by decide +kernel
theorem dX6_findings_18 : decode cX6_findings 18 = .ok (.iconst (-1), 1) := by decide +kernel
theorem dX6_findings_19 : decode cX6_findings 19 = .ok (.ireturn, 1) := by decide +kernel
set_option maxRecDepth 20000 in
theorem ggX6_digest_X6_tellsCount : GoodIn wsX6_digest wsX6_tellsCount := goodIn_r _ [10, 4, 3, 11, 12, 13, 14, 15, 9, 16, 17, 32, 33, 34, 35, 36, 37, 38, 39, 40, 41, 42, 43, 44, 45, 46, 47, 48, 49, 50, 51, 52, 53, 54, 55, 56, 57, 58, 59, 60, 61, 62] (by decide +kernel) (by decide +kernel)
set_option maxRecDepth 20000 in
theorem gX6_digest_X6_tellsCount : GoodIn wsX6_digest (wsV RX6 188 RX6 yX6_tellsCount wsX6_tellsCount) := goodIn_app (goodIn_of _ (by decide +kernel)) ggX6_digest_X6_tellsCount
set_option maxRecDepth 20000 in
theorem ggX6_digest_X6_tells : GoodIn wsX6_digest wsX6_tells := goodIn_r _ [21, 22, 23, 24, 25, 17, 26, 27, 28, 29, 9, 30, 31, 32, 33, 34, 35, 36, 37, 38, 39, 40, 41, 42, 43, 44, 45, 46, 47, 48, 49, 50, 51, 52, 53, 54, 55, 56, 57, 58, 59, 60, 61, 62] (by decide +kernel) (by decide +kernel)
set_option maxRecDepth 20000 in
theorem gX6_digest_X6_tells : GoodIn wsX6_digest (wsV RX6 125 RX6 yX6_tells wsX6_tells) := goodIn_app (goodIn_of _ (by decide +kernel)) ggX6_digest_X6_tells
theorem dX6_digest_0 : decode cX6_digest 0 = .ok (.ldc2_w 191, 3) := by decide +kernel
theorem dX6_digest_3 : decode cX6_digest 3 = .ok (.lstore_n 1, 1) := by decide +kernel
theorem dX6_digest_4 : decode cX6_digest 4 = .ok (.iconst 0, 1) := by decide +kernel
theorem dX6_digest_5 : decode cX6_digest 5 = .ok (.istore_n 3, 1) := by decide +kernel
theorem dX6_digest_6 : decode cX6_digest 6 = .ok (.iload_n 3, 1) := by decide +kernel
theorem dX6_digest_7 : decode cX6_digest 7 = .ok (.iconst 4, 1) := by decide +kernel
theorem dX6_digest_8 : decode cX6_digest 8 = .ok (.if_icmp .gt 22, 3) := by decide +kernel
theorem dX6_digest_11 : decode cX6_digest 11 = .ok (.ldc2_w 193, 3) := by decide +kernel
theorem dX6_digest_14 : decode cX6_digest 14 = .ok (.lload_n 1, 1) := by decide +kernel
theorem dX6_digest_15 : decode cX6_digest 15 = .ok (.lmul, 1) := by decide +kernel
theorem dX6_digest_16 : decode cX6_digest 16 = .ok (.aload_n 0, 1) := by decide +kernel
theorem dX6_digest_17 : decode cX6_digest 17 = .ok (.iload_n 3, 1) := by decide +kernel
theorem dX6_digest_18 : decode cX6_digest 18 = .ok (.invokevirtual 188, 3) := by decide +kernel
theorem dX6_digest_21 : decode cX6_digest 21 = .ok (.i2l, 1) := by decide +kernel
theorem dX6_digest_22 : decode cX6_digest 22 = .ok (.ladd, 1) := by decide +kernel
theorem dX6_digest_23 : decode cX6_digest 23 = .ok (.lstore_n 1, 1) := by decide +kernel
theorem dX6_digest_24 : decode cX6_digest 24 = .ok (.iinc 3 1, 3) := by decide +kernel
theorem dX6_digest_27 : decode cX6_digest 27 = .ok (.goto (-21), 3) := by decide +kernel
theorem dX6_digest_30 : decode cX6_digest 30 = .ok (.iconst 0, 1) := by decide +kernel
theorem dX6_digest_31 : decode cX6_digest 31 = .ok (.istore_n 3, 1) := by decide +kernel
theorem dX6_digest_32 : decode cX6_digest 32 = .ok (.iload_n 3, 1) := by decide +kernel
theorem dX6_digest_33 : decode cX6_digest 33 = .ok (.aload_n 0, 1) := by decide +kernel
theorem dX6_digest_34 : decode cX6_digest 34 = .ok (.getfield 110, 3) := by decide +kernel
theorem dX6_digest_37 : decode cX6_digest 37 = .ok (.if_icmp .ge 40, 3) := by decide +kernel
theorem dX6_digest_40 : decode cX6_digest 40 = .ok (.iconst 0, 1) := by decide +kernel
theorem dX6_digest_41 : decode cX6_digest 41 = .ok (.istore 4, 2) := by decide +kernel
theorem dX6_digest_43 : decode cX6_digest 43 = .ok (.iload 4, 2) := by decide +kernel
theorem dX6_digest_45 : decode cX6_digest 45 = .ok (.bipush 6, 2) := by decide +kernel
theorem dX6_digest_47 : decode cX6_digest 47 = .ok (.if_icmp .gt 24, 3) := by decide +kernel
theorem dX6_digest_50 : decode cX6_digest 50 = .ok (.ldc2_w 193, 3) := by decide +kernel
theorem dX6_digest_53 : decode cX6_digest 53 = .ok (.lload_n 1, 1) := by decide +kernel
theorem dX6_digest_54 : decode cX6_digest 54 = .ok (.lmul, 1) := by decide +kernel
theorem dX6_digest_55 : decode cX6_digest 55 = .ok (.aload_n 0, 1) := by decide +kernel
theorem dX6_digest_56 : decode cX6_digest 56 = .ok (.iload_n 3, 1) := by decide +kernel
theorem dX6_digest_57 : decode cX6_digest 57 = .ok (.iload 4, 2) := by decide +kernel
theorem dX6_digest_59 : decode cX6_digest 59 = .ok (.invokevirtual 125, 3) := by decide +kernel
theorem dX6_digest_62 : decode cX6_digest 62 = .ok (.i2l, 1) := by decide +kernel
theorem dX6_digest_63 : decode cX6_digest 63 = .ok (.ladd, 1) := by decide +kernel
theorem dX6_digest_64 : decode cX6_digest 64 = .ok (.lstore_n 1, 1) := by decide +kernel
theorem dX6_digest_65 : decode cX6_digest 65 = .ok (.iinc 4 1, 3) := by decide +kernel
theorem dX6_digest_68 : decode cX6_digest 68 = .ok (.goto (-25), 3) := by decide +kernel
theorem dX6_digest_71 : decode cX6_digest 71 = .ok (.iinc 3 1, 3) := by decide +kernel
theorem dX6_digest_74 : decode cX6_digest 74 = .ok (.goto (-42), 3) := by decide +kernel
theorem dX6_digest_77 : decode cX6_digest 77 = .ok (.iconst 0, 1) := by decide +kernel
theorem dX6_digest_78 : decode cX6_digest 78 = .ok (.istore_n 3, 1) := by decide +kernel
theorem dX6_digest_79 : decode cX6_digest 79 = .ok (.iload_n 3, 1) := by decide +kernel
theorem dX6_digest_80 : decode cX6_digest 80 = .ok (.bipush 12, 2) := by decide +kernel
theorem dX6_digest_82 : decode cX6_digest 82 = .ok (.if_icmp .ge 73, 3) := by decide +kernel
theorem dX6_digest_85 : decode cX6_digest 85 = .ok (.aload_n 0, 1) := by decide +kernel
theorem dX6_digest_86 : decode cX6_digest 86 = .ok (.getfield 17, 3) := by decide +kernel
theorem dX6_digest_89 : decode cX6_digest 89 = .ok (.iload_n 3, 1) := by decide +kernel
theorem dX6_digest_90 : decode cX6_digest 90 = .ok (.baload, 1) := by decide +kernel
theorem dX6_digest_91 : decode cX6_digest 91 = .ok (.ifCond .ne 11, 3) := by decide +kernel
theorem dX6_digest_94 : decode cX6_digest 94 = .ok (.ldc2_w 193, 3) := by decide +kernel
theorem dX6_digest_97 : decode cX6_digest 97 = .ok (.lload_n 1, 1) := by decide +kernel
theorem dX6_digest_98 : decode cX6_digest 98 = .ok (.lmul, 1) := by decide +kernel
theorem dX6_digest_99 : decode cX6_digest 99 = .ok (.lconst 1, 1) := by decide +kernel
theorem dX6_digest_100 : decode cX6_digest 100 = .ok (.lsub, 1) := by decide +kernel
theorem dX6_digest_101 : decode cX6_digest 101 = .ok (.lstore_n 1, 1) := by decide +kernel
theorem dX6_digest_102 : decode cX6_digest 102 = .ok (.iconst 0, 1) := by decide +kernel
theorem dX6_digest_103 : decode cX6_digest 103 = .ok (.istore 4, 2) := by decide +kernel
theorem dX6_digest_105 : decode cX6_digest 105 = .ok (.iload 4, 2) := by decide +kernel
theorem dX6_digest_107 : decode cX6_digest 107 = .ok (.sipush 160, 3) := by decide +kernel
theorem dX6_digest_110 : decode cX6_digest 110 = .ok (.if_icmp .ge 39, 3) := by decide +kernel
theorem dX6_digest_113 : decode cX6_digest 113 = .ok (.aload_n 0, 1) := by decide +kernel
theorem dX6_digest_114 : decode cX6_digest 114 = .ok (.getfield 17, 3) := by decide +kernel
theorem dX6_digest_117 : decode cX6_digest 117 = .ok (.iload_n 3, 1) := by decide +kernel
theorem dX6_digest_118 : decode cX6_digest 118 = .ok (.baload, 1) := by decide +kernel
theorem dX6_digest_119 : decode cX6_digest 119 = .ok (.ifCond .eq 30, 3) := by decide +kernel
theorem dX6_digest_122 : decode cX6_digest 122 = .ok (.ldc2_w 193, 3) := by decide +kernel
theorem dX6_digest_125 : decode cX6_digest 125 = .ok (.lload_n 1, 1) := by decide +kernel
theorem dX6_digest_126 : decode cX6_digest 126 = .ok (.lmul, 1) := by decide +kernel
theorem dX6_digest_127 : decode cX6_digest 127 = .ok (.aload_n 0, 1) := by decide +kernel
theorem dX6_digest_128 : decode cX6_digest 128 = .ok (.getfield 20, 3) := by decide +kernel
theorem dX6_digest_131 : decode cX6_digest 131 = .ok (.sipush 160, 3) := by decide +kernel
theorem dX6_digest_134 : decode cX6_digest 134 = .ok (.iload_n 3, 1) := by decide +kernel
theorem dX6_digest_135 : decode cX6_digest 135 = .ok (.imul, 1) := by decide +kernel
theorem dX6_digest_136 : decode cX6_digest 136 = .ok (.iload 4, 2) := by decide +kernel
theorem dX6_digest_138 : decode cX6_digest 138 = .ok (.iadd, 1) := by decide +kernel
theorem dX6_digest_139 : decode cX6_digest 139 = .ok (.iaload, 1) := by decide +kernel
theorem dX6_digest_140 : decode cX6_digest 140 = .ok (.i2l, 1) := by decide +kernel
theorem dX6_digest_141 : decode cX6_digest 141 = .ok (.ladd, 1) := by decide +kernel
theorem dX6_digest_142 : decode cX6_digest 142 = .ok (.lstore_n 1, 1) := by decide +kernel
theorem dX6_digest_143 : decode cX6_digest 143 = .ok (.iinc 4 1, 3) := by decide +kernel
theorem dX6_digest_146 : decode cX6_digest 146 = .ok (.goto (-41), 3) := by decide +kernel
theorem dX6_digest_149 : decode cX6_digest 149 = .ok (.iinc 3 1, 3) := by decide +kernel
theorem dX6_digest_152 : decode cX6_digest 152 = .ok (.goto (-73), 3) := by decide +kernel
theorem dX6_digest_155 : decode cX6_digest 155 = .ok (.lload_n 1, 1) := by decide +kernel
theorem dX6_digest_156 : decode cX6_digest 156 = .ok (.lreturn, 1) := by decide +kernel
theorem dJ9_floorMod_7cf53_0 : decode cJ9_floorMod_7cf53 0 = .ok (.iload_n 0, 1) := by decide +kernel
theorem dJ9_floorMod_7cf53_1 : decode cJ9_floorMod_7cf53 1 = .ok (.iload_n 1, 1) := by decide +kernel
theorem dJ9_floorMod_7cf53_2 : decode cJ9_floorMod_7cf53 2 = .ok (.irem, 1) := by decide +kernel
theorem dJ9_floorMod_7cf53_3 : decode cJ9_floorMod_7cf53 3 = .ok (.istore_n 2, 1) := by decide +kernel
theorem dJ9_floorMod_7cf53_4 : decode cJ9_floorMod_7cf53 4 = .ok (.iload_n 0, 1) := by decide +kernel
theorem dJ9_floorMod_7cf53_5 : decode cJ9_floorMod_7cf53 5 = .ok (.iload_n 1, 1) := by decide +kernel
theorem dJ9_floorMod_7cf53_6 : decode cJ9_floorMod_7cf53 6 = .ok (.ixor, 1) := by decide +kernel
theorem dJ9_floorMod_7cf53_7 : decode cJ9_floorMod_7cf53 7 = .ok (.ifCond .ge 11, 3) := by decide +kernel
theorem dJ9_floorMod_7cf53_10 : decode cJ9_floorMod_7cf53 10 = .ok (.iload_n 2, 1) := by decide +kernel
theorem dJ9_floorMod_7cf53_11 : decode cJ9_floorMod_7cf53 11 = .ok (.ifCond .eq 7, 3) := by decide +kernel
theorem dJ9_floorMod_7cf53_14 : decode cJ9_floorMod_7cf53 14 = .ok (.iload_n 2, 1) := by decide +kernel
theorem dJ9_floorMod_7cf53_15 : decode cJ9_floorMod_7cf53 15 = .ok (.iload_n 1, 1) := by decide +kernel
theorem dJ9_floorMod_7cf53_16 : decode cJ9_floorMod_7cf53 16 = .ok (.iadd, 1) := by decide +kernel
theorem dJ9_floorMod_7cf53_17 : decode cJ9_floorMod_7cf53 17 = .ok (.ireturn, 1) := by decide +kernel
theorem dJ9_floorMod_7cf53_18 : decode cJ9_floorMod_7cf53 18 = .ok (.iload_n 2, 1) := by decide +kernel
theorem dJ9_floorMod_7cf53_19 : decode cJ9_floorMod_7cf53 19 = .ok (.ireturn, 1) := by decide +kernel
theorem dJ9_abs_0f7a4_0 : decode cJ9_abs_0f7a4 0 = .ok (.iload_n 0, 1) := by decide +kernel
theorem dJ9_abs_0f7a4_1 : decode cJ9_abs_0f7a4 1 = .ok (.ifCond .ge 8, 3) := by decide +kernel
theorem dJ9_abs_0f7a4_4 : decode cJ9_abs_0f7a4 4 = .ok (.iload_n 0, 1) := by decide +kernel
theorem dJ9_abs_0f7a4_5 : decode cJ9_abs_0f7a4 5 = .ok (.ineg, 1) := by decide +kernel
theorem dJ9_abs_0f7a4_6 : decode cJ9_abs_0f7a4 6 = .ok (.goto 4, 3) := by decide +kernel
theorem dJ9_abs_0f7a4_9 : decode cJ9_abs_0f7a4 9 = .ok (.iload_n 0, 1) := by decide +kernel
theorem dJ9_abs_0f7a4_10 : decode cJ9_abs_0f7a4 10 = .ok (.ireturn, 1) := by decide +kernel
theorem dJ9_max_7cf53_0 : decode cJ9_max_7cf53 0 = .ok (.iload_n 0, 1) := by decide +kernel
theorem dJ9_max_7cf53_1 : decode cJ9_max_7cf53 1 = .ok (.iload_n 1, 1) := by decide +kernel
theorem dJ9_max_7cf53_2 : decode cJ9_max_7cf53 2 = .ok (.if_icmp .lt 7, 3) := by decide +kernel
theorem dJ9_max_7cf53_5 : decode cJ9_max_7cf53 5 = .ok (.iload_n 0, 1) := by decide +kernel
theorem dJ9_max_7cf53_6 : decode cJ9_max_7cf53 6 = .ok (.goto 4, 3) := by decide +kernel
theorem dJ9_max_7cf53_9 : decode cJ9_max_7cf53 9 = .ok (.iload_n 1, 1) := by decide +kernel
theorem dJ9_max_7cf53_10 : decode cJ9_max_7cf53 10 = .ok (.ireturn, 1) := by decide +kernel
theorem dJ9_min_7cf53_0 : decode cJ9_min_7cf53 0 = .ok (.iload_n 0, 1) := by decide +kernel
theorem dJ9_min_7cf53_1 : decode cJ9_min_7cf53 1 = .ok (.iload_n 1, 1) := by decide +kernel
theorem dJ9_min_7cf53_2 : decode cJ9_min_7cf53 2 = .ok (.if_icmp .gt 7, 3) := by decide +kernel
theorem dJ9_min_7cf53_5 : decode cJ9_min_7cf53 5 = .ok (.iload_n 0, 1) := by decide +kernel
theorem dJ9_min_7cf53_6 : decode cJ9_min_7cf53 6 = .ok (.goto 4, 3) := by decide +kernel
theorem dJ9_min_7cf53_9 : decode cJ9_min_7cf53 9 = .ok (.iload_n 1, 1) := by decide +kernel
theorem dJ9_min_7cf53_10 : decode cJ9_min_7cf53 10 = .ok (.ireturn, 1) := by decide +kernel
theorem dJxa1e45_init_da8c8_0 : decode cJxa1e45_init_da8c8 0 = .ok (.aload_n 0, 1) := by decide +kernel
theorem dJxa1e45_init_da8c8_1 : decode cJxa1e45_init_da8c8 1 = .ok (.invokespecial 1, 3) := by decide +kernel
theorem dJxa1e45_init_da8c8_4 : decode cJxa1e45_init_da8c8 4 = .ok (.return_, 1) := by decide +kernel
set_option maxRecDepth 20000 in
theorem ggJxc12de_init_da8c8_Jxa1e45_init_da8c8 : GoodIn wsJxc12de_init_da8c8 wsJxa1e45_init_da8c8 := goodIn_r _ [5, 6, 7, 8] (by decide +kernel) (by decide +kernel)
set_option maxRecDepth 20000 in
theorem gJxc12de_init_da8c8_Jxa1e45_init_da8c8 : GoodIn wsJxc12de_init_da8c8 (wsJxa1e45_init_da8c8) := ggJxc12de_init_da8c8_Jxa1e45_init_da8c8
theorem dJxc12de_init_da8c8_0 : decode cJxc12de_init_da8c8 0 = .ok (.aload_n 0, 1) := by decide +kernel
theorem dJxc12de_init_da8c8_1 : decode cJxc12de_init_da8c8 1 = .ok (.invokespecial 1, 3) := by decide +kernel
theorem dJxc12de_init_da8c8_4 : decode cJxc12de_init_da8c8 4 = .ok (.aload_n 0, 1) := by decide +kernel
theorem dJxc12de_init_da8c8_5 : decode cJxc12de_init_da8c8 5 = .ok (.iconst 0, 1) := by decide +kernel
theorem dJxc12de_init_da8c8_6 : decode cJxc12de_init_da8c8 6 = .ok (.putfield 7, 3) := by decide +kernel
theorem dJxc12de_init_da8c8_9 : decode cJxc12de_init_da8c8 9 = .ok (.return_, 1) := by decide +kernel
set_option maxRecDepth 20000 in
theorem ggJx4a65c_init_da8c8_Jxc12de_init_da8c8 : GoodIn wsJx4a65c_init_da8c8 wsJxc12de_init_da8c8 := goodIn_r _ [6, 7, 8, 9, 10, 11, 12, 13, 14, 15, 16, 17] (by decide +kernel) (by decide +kernel)
set_option maxRecDepth 20000 in
theorem gJx4a65c_init_da8c8_Jxc12de_init_da8c8 : GoodIn wsJx4a65c_init_da8c8 (wsJxc12de_init_da8c8) := ggJx4a65c_init_da8c8_Jxc12de_init_da8c8
theorem dJx4a65c_init_da8c8_0 : decode cJx4a65c_init_da8c8 0 = .ok (.aload_n 0, 1) := by decide +kernel
theorem dJx4a65c_init_da8c8_1 : decode cJx4a65c_init_da8c8 1 = .ok (.invokespecial 1, 3) := by decide +kernel
theorem dJx4a65c_init_da8c8_4 : decode cJx4a65c_init_da8c8 4 = .ok (.aload_n 0, 1) := by decide +kernel
theorem dJx4a65c_init_da8c8_5 : decode cJx4a65c_init_da8c8 5 = .ok (.getstatic 39, 3) := by decide +kernel
theorem dJx4a65c_init_da8c8_8 : decode cJx4a65c_init_da8c8 8 = .ok (.putfield 9, 3) := by decide +kernel
theorem dJx4a65c_init_da8c8_11 : decode cJx4a65c_init_da8c8 11 = .ok (.return_, 1) := by decide +kernel
set_option maxRecDepth 20000 in
theorem ggJx4a65c_grow_92f84_J8_newLength_cabcc : GoodIn wsJx4a65c_grow_92f84 wsJ8_newLength_cabcc := goodIn_r _ [11, 12, 4, 5, 6, 13, 14, 15, 10, 16] (by decide +kernel) (by decide +kernel)
set_option maxRecDepth 20000 in
theorem gJx4a65c_grow_92f84_J8_newLength_cabcc : GoodIn wsJx4a65c_grow_92f84 (va_wsS RJx4a65c 73 yJ8_newLength_cabcc wsJ8_newLength_cabcc) := goodIn_app (goodIn_of _ (by decide +kernel)) ggJx4a65c_grow_92f84_J8_newLength_cabcc
set_option maxRecDepth 20000 in
theorem ggJx4a65c_grow_92f84_J7_copyOf_1904c : GoodIn wsJx4a65c_grow_92f84 wsJ7_copyOf_1904c := goodIn_r _ [20, 21, 22, 23, 24, 25, 26, 19, 27, 28, 29, 30, 31, 5, 32, 33, 34, 35, 36] (by decide +kernel) (by decide +kernel)
set_option maxRecDepth 20000 in
theorem gJx4a65c_grow_92f84_J7_copyOf_1904c : GoodIn wsJx4a65c_grow_92f84 (va_wsS RJx4a65c 66 yJ7_copyOf_1904c wsJ7_copyOf_1904c) := goodIn_app (goodIn_of _ (by decide +kernel)) ggJx4a65c_grow_92f84_J7_copyOf_1904c
theorem dJx4a65c_grow_92f84_0 : decode cJx4a65c_grow_92f84 0 = .ok (.aload_n 0, 1) := by decide +kernel
theorem dJx4a65c_grow_92f84_1 : decode cJx4a65c_grow_92f84 1 = .ok (.getfield 9, 3) := by decide +kernel
theorem dJx4a65c_grow_92f84_4 : decode cJx4a65c_grow_92f84 4 = .ok (.arraylength, 1) := by decide +kernel
theorem dJx4a65c_grow_92f84_5 : decode cJx4a65c_grow_92f84 5 = .ok (.istore_n 2, 1) := by decide +kernel
theorem dJx4a65c_grow_92f84_6 : decode cJx4a65c_grow_92f84 6 = .ok (.iload_n 2, 1) := by decide +kernel
theorem dJx4a65c_grow_92f84_7 : decode cJx4a65c_grow_92f84 7 = .ok (.ifCond .gt 13, 3) := by decide +kernel
theorem dJx4a65c_grow_92f84_10 : decode cJx4a65c_grow_92f84 10 = .ok (.aload_n 0, 1) := by decide +kernel
theorem dJx4a65c_grow_92f84_11 : decode cJx4a65c_grow_92f84 11 = .ok (.getfield 9, 3) := by decide +kernel
theorem dJx4a65c_grow_92f84_14 : decode cJx4a65c_grow_92f84 14 = .ok (.getstatic 39, 3) := by decide +kernel
theorem dJx4a65c_grow_92f84_17 : decode cJx4a65c_grow_92f84 17 = .ok (.if_acmp .eq 28, 3) := by decide +kernel
theorem dJx4a65c_grow_92f84_20 : decode cJx4a65c_grow_92f84 20 = .ok (.iload_n 2, 1) := by decide +kernel
theorem dJx4a65c_grow_92f84_21 : decode cJx4a65c_grow_92f84 21 = .ok (.iload_n 1, 1) := by decide +kernel
theorem dJx4a65c_grow_92f84_22 : decode cJx4a65c_grow_92f84 22 = .ok (.iload_n 2, 1) := by decide +kernel
theorem dJx4a65c_grow_92f84_23 : decode cJx4a65c_grow_92f84 23 = .ok (.isub, 1) := by decide +kernel
theorem dJx4a65c_grow_92f84_24 : decode cJx4a65c_grow_92f84 24 = .ok (.iload_n 2, 1) := by decide +kernel
theorem dJx4a65c_grow_92f84_25 : decode cJx4a65c_grow_92f84 25 = .ok (.iconst 1, 1) := by decide +kernel
theorem dJx4a65c_grow_92f84_26 : decode cJx4a65c_grow_92f84 26 = .ok (.ishr, 1) := by decide +kernel
theorem dJx4a65c_grow_92f84_27 : decode cJx4a65c_grow_92f84 27 = .ok (.invokestatic 73, 3) := by decide +kernel
theorem dJx4a65c_grow_92f84_30 : decode cJx4a65c_grow_92f84 30 = .ok (.istore_n 3, 1) := by decide +kernel
theorem dJx4a65c_grow_92f84_31 : decode cJx4a65c_grow_92f84 31 = .ok (.aload_n 0, 1) := by decide +kernel
theorem dJx4a65c_grow_92f84_32 : decode cJx4a65c_grow_92f84 32 = .ok (.aload_n 0, 1) := by decide +kernel
theorem dJx4a65c_grow_92f84_33 : decode cJx4a65c_grow_92f84 33 = .ok (.getfield 9, 3) := by decide +kernel
theorem dJx4a65c_grow_92f84_36 : decode cJx4a65c_grow_92f84 36 = .ok (.iload_n 3, 1) := by decide +kernel
theorem dJx4a65c_grow_92f84_37 : decode cJx4a65c_grow_92f84 37 = .ok (.invokestatic 66, 3) := by decide +kernel
theorem dJx4a65c_grow_92f84_40 : decode cJx4a65c_grow_92f84 40 = .ok (.dup_x1, 1) := by decide +kernel
theorem dJx4a65c_grow_92f84_41 : decode cJx4a65c_grow_92f84 41 = .ok (.putfield 9, 3) := by decide +kernel
theorem dJx4a65c_grow_92f84_44 : decode cJx4a65c_grow_92f84 44 = .ok (.areturn, 1) := by decide +kernel
theorem dJx4a65c_grow_92f84_45 : decode cJx4a65c_grow_92f84 45 = .ok (.aload_n 0, 1) := by decide +kernel
theorem dJx4a65c_grow_92f84_46 : decode cJx4a65c_grow_92f84 46 = .ok (.bipush 10, 2) := by decide +kernel
theorem dJx4a65c_grow_92f84_48 : decode cJx4a65c_grow_92f84 48 = .ok (.iload_n 1, 1) := by decide +kernel
theorem dJx4a65c_grow_92f84_49 : decode cJx4a65c_grow_92f84 49 = .ok (.invokestatic 79, 3) := by decide +kernel
theorem dJx4a65c_grow_92f84_52 : decode cJx4a65c_grow_92f84 52 = .ok (.anewarray 7, 3) := by decide +kernel
theorem dJx4a65c_grow_92f84_55 : decode cJx4a65c_grow_92f84 55 = .ok (.dup_x1, 1) := by decide +kernel
theorem dJx4a65c_grow_92f84_56 : decode cJx4a65c_grow_92f84 56 = .ok (.putfield 9, 3) := by decide +kernel
theorem dJx4a65c_grow_92f84_59 : decode cJx4a65c_grow_92f84 59 = .ok (.areturn, 1) := by decide +kernel
set_option maxRecDepth 20000 in
theorem ggJx4a65c_grow_d5877_Jx4a65c_grow_92f84 : GoodIn wsJx4a65c_grow_d5877 wsJx4a65c_grow_92f84 := goodIn_r _ [6, 7, 8, 9, 10, 11, 12, 13, 14, 15, 16, 17, 18, 19, 20, 21, 22, 23, 24, 25, 26, 27, 28, 29, 30, 31, 32, 33, 34, 35, 36, 37, 38, 39, 40, 41, 42, 43, 44, 45] (by decide +kernel) (by decide +kernel)
set_option maxRecDepth 20000 in
theorem gJx4a65c_grow_d5877_Jx4a65c_grow_92f84 : GoodIn wsJx4a65c_grow_d5877 (wsV RJx4a65c 69 RJx4a65c yJx4a65c_grow_92f84 wsJx4a65c_grow_92f84) := goodIn_app (goodIn_of _ (by decide +kernel)) ggJx4a65c_grow_d5877_Jx4a65c_grow_92f84
theorem dJx4a65c_grow_d5877_0 : decode cJx4a65c_grow_d5877 0 = .ok (.aload_n 0, 1) := by decide +kernel
theorem dJx4a65c_grow_d5877_1 : decode cJx4a65c_grow_d5877 1 = .ok (.aload_n 0, 1) := by decide +kernel
theorem dJx4a65c_grow_d5877_2 : decode cJx4a65c_grow_d5877 2 = .ok (.getfield 48, 3) := by decide +kernel
theorem dJx4a65c_grow_d5877_5 : decode cJx4a65c_grow_d5877 5 = .ok (.iconst 1, 1) := by decide +kernel
theorem dJx4a65c_grow_d5877_6 : decode cJx4a65c_grow_d5877 6 = .ok (.iadd, 1) := by decide +kernel
theorem dJx4a65c_grow_d5877_7 : decode cJx4a65c_grow_d5877 7 = .ok (.invokevirtual 69, 3) := by decide +kernel
theorem dJx4a65c_grow_d5877_10 : decode cJx4a65c_grow_d5877 10 = .ok (.areturn, 1) := by decide +kernel
theorem dJx4a65c_size_8abf5_0 : decode cJx4a65c_size_8abf5 0 = .ok (.aload_n 0, 1) := by decide +kernel
theorem dJx4a65c_size_8abf5_1 : decode cJx4a65c_size_8abf5 1 = .ok (.getfield 48, 3) := by decide +kernel
theorem dJx4a65c_size_8abf5_4 : decode cJx4a65c_size_8abf5 4 = .ok (.ireturn, 1) := by decide +kernel
theorem dJx4a65c_elementData_915e3_0 : decode cJx4a65c_elementData_915e3 0 = .ok (.aload_n 0, 1) := by decide +kernel
theorem dJx4a65c_elementData_915e3_1 : decode cJx4a65c_elementData_915e3 1 = .ok (.getfield 9, 3) := by decide +kernel
theorem dJx4a65c_elementData_915e3_4 : decode cJx4a65c_elementData_915e3 4 = .ok (.iload_n 1, 1) := by decide +kernel
theorem dJx4a65c_elementData_915e3_5 : decode cJx4a65c_elementData_915e3 5 = .ok (.aaload, 1) := by decide +kernel
theorem dJx4a65c_elementData_915e3_6 : decode cJx4a65c_elementData_915e3 6 = .ok (.areturn, 1) := by decide +kernel
set_option maxRecDepth 20000 in
theorem ggJx4a65c_get_915e3_J15_checkIndex_7cf53 : GoodIn wsJx4a65c_get_915e3 wsJ15_checkIndex_7cf53 := goodIn_r _ [5, 6, 7, 8, 9] (by decide +kernel) (by decide +kernel)
set_option maxRecDepth 20000 in
theorem gJx4a65c_get_915e3_J15_checkIndex_7cf53 : GoodIn wsJx4a65c_get_915e3 (va_wsS RJx4a65c 118 yJ15_checkIndex_7cf53 wsJ15_checkIndex_7cf53) := goodIn_app (goodIn_of _ (by decide +kernel)) ggJx4a65c_get_915e3_J15_checkIndex_7cf53
set_option maxRecDepth 20000 in
theorem ggJx4a65c_get_915e3_Jx4a65c_elementData_915e3 : GoodIn wsJx4a65c_get_915e3 wsJx4a65c_elementData_915e3 := goodIn_r _ [14, 15, 16, 17, 18] (by decide +kernel) (by decide +kernel)
set_option maxRecDepth 20000 in
theorem gJx4a65c_get_915e3_Jx4a65c_elementData_915e3 : GoodIn wsJx4a65c_get_915e3 (wsV RJx4a65c 123 RJx4a65c yJx4a65c_elementData_915e3 wsJx4a65c_elementData_915e3) := goodIn_app (goodIn_of _ (by decide +kernel)) ggJx4a65c_get_915e3_Jx4a65c_elementData_915e3
theorem dJx4a65c_get_915e3_0 : decode cJx4a65c_get_915e3 0 = .ok (.iload_n 1, 1) := by decide +kernel
theorem dJx4a65c_get_915e3_1 : decode cJx4a65c_get_915e3 1 = .ok (.aload_n 0, 1) := by decide +kernel
theorem dJx4a65c_get_915e3_2 : decode cJx4a65c_get_915e3 2 = .ok (.getfield 48, 3) := by decide +kernel
theorem dJx4a65c_get_915e3_5 : decode cJx4a65c_get_915e3 5 = .ok (.invokestatic 118, 3) := by decide +kernel
theorem dJx4a65c_get_915e3_8 : decode cJx4a65c_get_915e3 8 = .ok (.pop, 1) := by decide +kernel
theorem dJx4a65c_get_915e3_9 : decode cJx4a65c_get_915e3 9 = .ok (.aload_n 0, 1) := by decide +kernel
theorem dJx4a65c_get_915e3_10 : decode cJx4a65c_get_915e3 10 = .ok (.iload_n 1, 1) := by decide +kernel
theorem dJx4a65c_get_915e3_11 : decode cJx4a65c_get_915e3 11 = .ok (.invokevirtual 123, 3) := by decide +kernel
theorem dJx4a65c_get_915e3_14 : decode cJx4a65c_get_915e3 14 = .ok (.areturn, 1) := by decide +kernel
set_option maxRecDepth 20000 in
theorem ggJx4a65c_add_72be8_Jx4a65c_grow_d5877 : GoodIn wsJx4a65c_add_72be8 wsJx4a65c_grow_d5877 := goodIn_r _ [6, 1, 7, 8, 9, 5, 10, 11, 12, 13, 14, 15, 16, 17, 18, 19, 20, 21, 22, 23, 24, 25, 26, 27, 28, 29, 30, 31, 32, 33, 34, 35, 36, 37, 38, 39, 40, 41, 42, 43, 44, 45, 46, 47, 48, 49] (by decide +kernel) (by decide +kernel)
set_option maxRecDepth 20000 in
theorem gJx4a65c_add_72be8_Jx4a65c_grow_d5877 : GoodIn wsJx4a65c_add_72be8 (wsV RJx4a65c 129 RJx4a65c yJx4a65c_grow_d5877 wsJx4a65c_grow_d5877) := goodIn_app (goodIn_of _ (by decide +kernel)) ggJx4a65c_add_72be8_Jx4a65c_grow_d5877
theorem dJx4a65c_add_72be8_0 : decode cJx4a65c_add_72be8 0 = .ok (.iload_n 3, 1) := by decide +kernel
theorem dJx4a65c_add_72be8_1 : decode cJx4a65c_add_72be8 1 = .ok (.aload_n 2, 1) := by decide +kernel
theorem dJx4a65c_add_72be8_2 : decode cJx4a65c_add_72be8 2 = .ok (.arraylength, 1) := by decide +kernel
theorem dJx4a65c_add_72be8_3 : decode cJx4a65c_add_72be8 3 = .ok (.if_icmp .ne 8, 3) := by decide +kernel
theorem dJx4a65c_add_72be8_6 : decode cJx4a65c_add_72be8 6 = .ok (.aload_n 0, 1) := by decide +kernel
theorem dJx4a65c_add_72be8_7 : decode cJx4a65c_add_72be8 7 = .ok (.invokevirtual 129, 3) := by decide +kernel
theorem dJx4a65c_add_72be8_10 : decode cJx4a65c_add_72be8 10 = .ok (.astore_n 2, 1) := by decide +kernel
theorem dJx4a65c_add_72be8_11 : decode cJx4a65c_add_72be8 11 = .ok (.aload_n 2, 1) := by decide +kernel
theorem dJx4a65c_add_72be8_12 : decode cJx4a65c_add_72be8 12 = .ok (.iload_n 3, 1) := by decide +kernel
theorem dJx4a65c_add_72be8_13 : decode cJx4a65c_add_72be8 13 = .ok (.aload_n 1, 1) := by decide +kernel
theorem dJx4a65c_add_72be8_14 : decode cJx4a65c_add_72be8 14 = .ok (.aastore, 1) := by decide +kernel
