theorem dX6_priceFor_72 : decode cX6_priceFor 72 = .ok (.iaload, 1) := by decide +kernel
theorem dX6_priceFor_73 : decode cX6_priceFor 73 = .ok (.goto 4, 3) := by decide +kernel
theorem dX6_priceFor_76 : decode cX6_priceFor 76 = .ok (.iconst 0, 1) := by decide +kernel
theorem dX6_priceFor_77 : decode cX6_priceFor 77 = .ok (.iadd, 1) := by decide +kernel
theorem dX6_priceFor_78 : decode cX6_priceFor 78 = .ok (.istore_n 2, 1) := by decide +kernel
theorem dX6_priceFor_79 : decode cX6_priceFor 79 = .ok (.iinc 3 1, 3) := by decide +kernel
theorem dX6_priceFor_82 : decode cX6_priceFor 82 = .ok (.goto (-78), 3) := by decide +kernel
theorem dX6_priceFor_85 : decode cX6_priceFor 85 = .ok (.aload_n 0, 1) := by decide +kernel
theorem dX6_priceFor_86 : decode cX6_priceFor 86 = .ok (.getfield 77, 3) := by decide +kernel
theorem dX6_priceFor_89 : decode cX6_priceFor 89 = .ok (.aload_n 0, 1) := by decide +kernel
theorem dX6_priceFor_90 : decode cX6_priceFor 90 = .ok (.getfield 81, 3) := by decide +kernel
theorem dX6_priceFor_93 : decode cX6_priceFor 93 = .ok (.iload_n 2, 1) := by decide +kernel
theorem dX6_priceFor_94 : decode cX6_priceFor 94 = .ok (.bipush 99, 2) := by decide +kernel
theorem dX6_priceFor_96 : decode cX6_priceFor 96 = .ok (.iadd, 1) := by decide +kernel
theorem dX6_priceFor_97 : decode cX6_priceFor 97 = .ok (.bipush 100, 2) := by decide +kernel
theorem dX6_priceFor_99 : decode cX6_priceFor 99 = .ok (.idiv, 1) := by decide +kernel
theorem dX6_priceFor_100 : decode cX6_priceFor 100 = .ok (.imul, 1) := by decide +kernel
theorem dX6_priceFor_101 : decode cX6_priceFor 101 = .ok (.isub, 1) := by decide +kernel
theorem dX6_priceFor_102 : decode cX6_priceFor 102 = .ok (.istore_n 3, 1) := by decide +kernel
theorem dX6_priceFor_103 : decode cX6_priceFor 103 = .ok (.iload_n 3, 1) := by decide +kernel
theorem dX6_priceFor_104 : decode cX6_priceFor 104 = .ok (.iconst 1, 1) := by decide +kernel
theorem dX6_priceFor_105 : decode cX6_priceFor 105 = .ok (.if_icmp .ge 7, 3) := by decide +kernel
theorem dX6_priceFor_108 : decode cX6_priceFor 108 = .ok (.iconst 1, 1) := by decide +kernel
theorem dX6_priceFor_109 : decode cX6_priceFor 109 = .ok (.goto 4, 3) := by decide +kernel
theorem dX6_priceFor_112 : decode cX6_priceFor 112 = .ok (.iload_n 3, 1) := by decide +kernel
theorem dX6_priceFor_113 : decode cX6_priceFor 113 = .ok (.ireturn, 1) := by decide +kernel
set_option maxRecDepth 20000 in
theorem ggX6_sale_X6_isShip : GoodIn wsX6_sale wsX6_isShip := goodIn_r _ [8, 9, 10, 11, 7, 12, 24, 25, 26, 27, 28, 29, 30, 31, 32, 33, 34, 35, 36, 37, 38, 39, 40, 41, 42, 43, 44, 45, 46, 47, 48, 49, 50, 51, 52, 53, 54] rfl (by decide +kernel)
set_option maxRecDepth 20000 in
theorem gX6_sale_X6_isShip : GoodIn wsX6_sale (wsV RX6 116 RX6 yX6_isShip wsX6_isShip) := goodIn_app (goodIn_of _ (by decide +kernel)) ggX6_sale_X6_isShip
set_option maxRecDepth 20000 in
theorem ggX6_sale_X6_priceFor : GoodIn wsX6_sale wsX6_priceFor := goodIn_r _ [16, 9, 1, 2, 17, 18, 19, 20, 21, 7, 22, 23, 24, 25, 26, 27, 28, 29, 30, 31, 32, 33, 34, 35, 36, 37, 38, 39, 40, 41, 42, 43, 44, 45, 46, 47, 48, 49, 50, 51, 52, 53, 54] rfl (by decide +kernel)
set_option maxRecDepth 20000 in
theorem gX6_sale_X6_priceFor : GoodIn wsX6_sale (wsV RX6 181 RX6 yX6_priceFor wsX6_priceFor) := goodIn_app (goodIn_of _ (by decide +kernel)) ggX6_sale_X6_priceFor
theorem dX6_sale_0 : decode cX6_sale 0 = .ok (.aload_n 0, 1) := by decide +kernel
theorem dX6_sale_1 : decode cX6_sale 1 = .ok (.iload_n 1, 1) := by decide +kernel
theorem dX6_sale_2 : decode cX6_sale 2 = .ok (.invokevirtual 116, 3) := by decide +kernel
theorem dX6_sale_5 : decode cX6_sale 5 = .ok (.ifCond .ne 5, 3) := by decide +kernel
theorem dX6_sale_8 : decode cX6_sale 8 = .ok (.iconst (-1), 1) := by decide +kernel
theorem dX6_sale_9 : decode cX6_sale 9 = .ok (.ireturn, 1) := by decide +kernel
theorem dX6_sale_10 : decode cX6_sale 10 = .ok (.aload_n 0, 1) := by decide +kernel
theorem dX6_sale_11 : decode cX6_sale 11 = .ok (.getfield 38, 3) := by decide +kernel
theorem dX6_sale_14 : decode cX6_sale 14 = .ok (.iload_n 1, 1) := by decide +kernel
theorem dX6_sale_15 : decode cX6_sale 15 = .ok (.iaload, 1) := by decide +kernel
theorem dX6_sale_16 : decode cX6_sale 16 = .ok (.bipush (-9), 2) := by decide +kernel
theorem dX6_sale_18 : decode cX6_sale 18 = .ok (.if_icmp .ne 6, 3) := by decide +kernel
theorem dX6_sale_21 : decode cX6_sale 21 = .ok (.bipush (-4), 2) := by decide +kernel
theorem dX6_sale_23 : decode cX6_sale 23 = .ok (.ireturn, 1) := by decide +kernel
theorem dX6_sale_24 : decode cX6_sale 24 = .ok (.aload_n 0, 1) := by decide +kernel
theorem dX6_sale_25 : decode cX6_sale 25 = .ok (.iload_n 1, 1) := by decide +kernel
theorem dX6_sale_26 : decode cX6_sale 26 = .ok (.invokevirtual 181, 3) := by decide +kernel
theorem dX6_sale_29 : decode cX6_sale 29 = .ok (.istore_n 2, 1) := by decide +kernel
theorem dX6_sale_30 : decode cX6_sale 30 = .ok (.aload_n 0, 1) := by decide +kernel
theorem dX6_sale_31 : decode cX6_sale 31 = .ok (.iload_n 2, 1) := by decide +kernel
theorem dX6_sale_32 : decode cX6_sale 32 = .ok (.i2l, 1) := by decide +kernel
theorem dX6_sale_33 : decode cX6_sale 33 = .ok (.aload_n 0, 1) := by decide +kernel
theorem dX6_sale_34 : decode cX6_sale 34 = .ok (.getfield 41, 3) := by decide +kernel
theorem dX6_sale_37 : decode cX6_sale 37 = .ok (.iload_n 1, 1) := by decide +kernel
theorem dX6_sale_38 : decode cX6_sale 38 = .ok (.iaload, 1) := by decide +kernel
theorem dX6_sale_39 : decode cX6_sale 39 = .ok (.i2l, 1) := by decide +kernel
theorem dX6_sale_40 : decode cX6_sale 40 = .ok (.lmul, 1) := by decide +kernel
theorem dX6_sale_41 : decode cX6_sale 41 = .ok (.putfield 184, 3) := by decide +kernel
theorem dX6_sale_44 : decode cX6_sale 44 = .ok (.iload_n 2, 1) := by decide +kernel
theorem dX6_sale_45 : decode cX6_sale 45 = .ok (.ireturn, 1) := by decide +kernel
set_option maxRecDepth 20000 in
theorem ggX6_meanPrice_X6_priceFor : GoodIn wsX6_meanPrice wsX6_priceFor := goodIn_r _ [8, 1, 2, 3, 9, 10, 11, 12, 13, 7, 14, 15, 22, 23, 24, 25, 26, 27, 28, 29, 30, 31, 32, 33, 34, 35, 36, 37, 38, 39, 40, 41, 42, 43, 44, 45, 46, 47, 48, 49, 50, 51, 52] rfl (by decide +kernel)
set_option maxRecDepth 20000 in
theorem gX6_meanPrice_X6_priceFor : GoodIn wsX6_meanPrice (wsV RX6 181 RX6 yX6_priceFor wsX6_priceFor) := goodIn_app (goodIn_of _ (by decide +kernel)) ggX6_meanPrice_X6_priceFor
set_option maxRecDepth 20000 in
theorem ggX6_meanPrice_X6_meets : GoodIn wsX6_meanPrice wsX6_meets := goodIn_r _ [19, 20, 21, 22, 23, 24, 25, 26, 27, 28, 29, 30, 31, 32, 33, 34, 35, 36, 37, 38, 39, 40, 41, 42, 43, 44, 45, 46, 47, 48, 49, 50, 51, 52] rfl (by decide +kernel)
set_option maxRecDepth 20000 in
theorem gX6_meanPrice_X6_meets : GoodIn wsX6_meanPrice (wsV RX6 98 RX6 yX6_meets wsX6_meets) := goodIn_app (goodIn_of _ (by decide +kernel)) ggX6_meanPrice_X6_meets
theorem dX6_meanPrice_0 : decode cX6_meanPrice 0 = .ok (.lconst 0, 1) := by decide +kernel
theorem dX6_meanPrice_1 : decode cX6_meanPrice 1 = .ok (.lstore_n 1, 1) := by decide +kernel
theorem dX6_meanPrice_2 : decode cX6_meanPrice 2 = .ok (.lconst 0, 1) := by decide +kernel
theorem dX6_meanPrice_3 : decode cX6_meanPrice 3 = .ok (.lstore_n 3, 1) := by decide +kernel
theorem dX6_meanPrice_4 : decode cX6_meanPrice 4 = .ok (.iconst 0, 1) := by decide +kernel
theorem dX6_meanPrice_5 : decode cX6_meanPrice 5 = .ok (.istore 5, 2) := by decide +kernel
theorem dX6_meanPrice_7 : decode cX6_meanPrice 7 = .ok (.iload 5, 2) := by decide +kernel
theorem dX6_meanPrice_9 : decode cX6_meanPrice 9 = .ok (.aload_n 0, 1) := by decide +kernel
theorem dX6_meanPrice_10 : decode cX6_meanPrice 10 = .ok (.getfield 110, 3) := by decide +kernel
theorem dX6_meanPrice_13 : decode cX6_meanPrice 13 = .ok (.if_icmp .ge 51, 3) := by decide +kernel
theorem dX6_meanPrice_16 : decode cX6_meanPrice 16 = .ok (.aload_n 0, 1) := by decide +kernel
theorem dX6_meanPrice_17 : decode cX6_meanPrice 17 = .ok (.getfield 38, 3) := by decide +kernel
theorem dX6_meanPrice_20 : decode cX6_meanPrice 20 = .ok (.iload 5, 2) := by decide +kernel
theorem dX6_meanPrice_22 : decode cX6_meanPrice 22 = .ok (.iaload, 1) := by decide +kernel
theorem dX6_meanPrice_23 : decode cX6_meanPrice 23 = .ok (.bipush (-9), 2) := by decide +kernel
theorem dX6_meanPrice_25 : decode cX6_meanPrice 25 = .ok (.if_icmp .eq 33, 3) := by decide +kernel
theorem dX6_meanPrice_28 : decode cX6_meanPrice 28 = .ok (.lload_n 1, 1) := by decide +kernel
theorem dX6_meanPrice_29 : decode cX6_meanPrice 29 = .ok (.aload_n 0, 1) := by decide +kernel
theorem dX6_meanPrice_30 : decode cX6_meanPrice 30 = .ok (.iload 5, 2) := by decide +kernel
theorem dX6_meanPrice_32 : decode cX6_meanPrice 32 = .ok (.invokevirtual 181, 3) := by decide +kernel
theorem dX6_meanPrice_35 : decode cX6_meanPrice 35 = .ok (.i2l, 1) := by decide +kernel
theorem dX6_meanPrice_36 : decode cX6_meanPrice 36 = .ok (.aload_n 0, 1) := by decide +kernel
theorem dX6_meanPrice_37 : decode cX6_meanPrice 37 = .ok (.getfield 41, 3) := by decide +kernel
theorem dX6_meanPrice_40 : decode cX6_meanPrice 40 = .ok (.iload 5, 2) := by decide +kernel
theorem dX6_meanPrice_42 : decode cX6_meanPrice 42 = .ok (.iaload, 1) := by decide +kernel
theorem dX6_meanPrice_43 : decode cX6_meanPrice 43 = .ok (.i2l, 1) := by decide +kernel
theorem dX6_meanPrice_44 : decode cX6_meanPrice 44 = .ok (.lmul, 1) := by decide +kernel
theorem dX6_meanPrice_45 : decode cX6_meanPrice 45 = .ok (.ladd, 1) := by decide +kernel
theorem dX6_meanPrice_46 : decode cX6_meanPrice 46 = .ok (.lstore_n 1, 1) := by decide +kernel
theorem dX6_meanPrice_47 : decode cX6_meanPrice 47 = .ok (.lload_n 3, 1) := by decide +kernel
theorem dX6_meanPrice_48 : decode cX6_meanPrice 48 = .ok (.aload_n 0, 1) := by decide +kernel
theorem dX6_meanPrice_49 : decode cX6_meanPrice 49 = .ok (.getfield 41, 3) := by decide +kernel
theorem dX6_meanPrice_52 : decode cX6_meanPrice 52 = .ok (.iload 5, 2) := by decide +kernel
theorem dX6_meanPrice_54 : decode cX6_meanPrice 54 = .ok (.iaload, 1) := by decide +kernel
theorem dX6_meanPrice_55 : decode cX6_meanPrice 55 = .ok (.i2l, 1) := by decide +kernel
theorem dX6_meanPrice_56 : decode cX6_meanPrice 56 = .ok (.ladd, 1) := by decide +kernel
theorem dX6_meanPrice_57 : decode cX6_meanPrice 57 = .ok (.lstore_n 3, 1) := by decide +kernel
theorem dX6_meanPrice_58 : decode cX6_meanPrice 58 = .ok (.iinc 5 1, 3) := by decide +kernel
theorem dX6_meanPrice_61 : decode cX6_meanPrice 61 = .ok (.goto (-54), 3) := by decide +kernel
theorem dX6_meanPrice_64 : decode cX6_meanPrice 64 = .ok (.lload_n 3, 1) := by decide +kernel
theorem dX6_meanPrice_65 : decode cX6_meanPrice 65 = .ok (.lconst 0, 1) := by decide +kernel
theorem dX6_meanPrice_66 : decode cX6_meanPrice 66 = .ok (.lcmp, 1) := by decide +kernel
theorem dX6_meanPrice_67 : decode cX6_meanPrice 67 = .ok (.ifCond .ne 11, 3) := by decide +kernel
theorem dX6_meanPrice_70 : decode cX6_meanPrice 70 = .ok (.aload_n 0, 1) := by decide +kernel
theorem dX6_meanPrice_71 : decode cX6_meanPrice 71 = .ok (.iconst 4, 1) := by decide +kernel
theorem dX6_meanPrice_72 : decode cX6_meanPrice 72 = .ok (.invokevirtual 98, 3) := by decide +kernel
theorem dX6_meanPrice_75 : decode cX6_meanPrice 75 = .ok (.goto 7, 3) := by decide +kernel
theorem dX6_meanPrice_78 : decode cX6_meanPrice 78 = .ok (.lload_n 1, 1) := by decide +kernel
theorem dX6_meanPrice_79 : decode cX6_meanPrice 79 = .ok (.lload_n 3, 1) := by decide +kernel
theorem dX6_meanPrice_80 : decode cX6_meanPrice 80 = .ok (.ldiv, 1) := by decide +kernel
theorem dX6_meanPrice_81 : decode cX6_meanPrice 81 = .ok (.l2i, 1) := by decide +kernel
theorem dX6_meanPrice_82 : decode cX6_meanPrice 82 = .ok (.ireturn, 1) := by decide +kernel
theorem dX6_asked_0 : decode cX6_asked 0 = .ok (.aload_n 0, 1) := by decide +kernel
theorem dX6_asked_1 : decode cX6_asked 1 = .ok (.getfield 184, 3) := by decide +kernel
theorem dX6_asked_4 : decode cX6_asked 4 = .ok (.lreturn, 1) := by decide +kernel
set_option maxRecDepth 20000 in
theorem ggX6_tellsCount_X6_atHome : GoodIn wsX6_tellsCount wsX6_atHome := goodIn_r _ [9, 2, 10, 11, 12, 13, 14, 15, 16, 17, 18, 19, 20, 21, 22, 23, 24, 25, 26, 27, 28, 29, 30, 31, 32, 33, 34, 35, 36, 37, 38, 39, 40, 41] rfl (by decide +kernel)
set_option maxRecDepth 20000 in
theorem gX6_tellsCount_X6_atHome : GoodIn wsX6_tellsCount (wsV RX6 153 RX6 yX6_atHome wsX6_atHome) := goodIn_app (goodIn_of _ (by decide +kernel)) ggX6_tellsCount_X6_atHome
theorem dX6_tellsCount_0 : decode cX6_tellsCount 0 = .ok (.iconst 0, 1) := by decide +kernel
theorem dX6_tellsCount_1 : decode cX6_tellsCount 1 = .ok (.istore_n 2, 1) := by decide +kernel
theorem dX6_tellsCount_2 : decode cX6_tellsCount 2 = .ok (.iconst 0, 1) := by decide +kernel
theorem dX6_tellsCount_3 : decode cX6_tellsCount 3 = .ok (.istore_n 3, 1) := by decide +kernel
theorem dX6_tellsCount_4 : decode cX6_tellsCount 4 = .ok (.iload_n 3, 1) := by decide +kernel
theorem dX6_tellsCount_5 : decode cX6_tellsCount 5 = .ok (.bipush 12, 2) := by decide +kernel
theorem dX6_tellsCount_7 : decode cX6_tellsCount 7 = .ok (.if_icmp .ge 26, 3) := by decide +kernel
theorem dX6_tellsCount_10 : decode cX6_tellsCount 10 = .ok (.iload_n 2, 1) := by decide +kernel
theorem dX6_tellsCount_11 : decode cX6_tellsCount 11 = .ok (.aload_n 0, 1) := by decide +kernel
theorem dX6_tellsCount_12 : decode cX6_tellsCount 12 = .ok (.getfield 17, 3) := by decide +kernel
theorem dX6_tellsCount_15 : decode cX6_tellsCount 15 = .ok (.iload_n 3, 1) := by decide +kernel
theorem dX6_tellsCount_16 : decode cX6_tellsCount 16 = .ok (.baload, 1) := by decide +kernel
theorem dX6_tellsCount_17 : decode cX6_tellsCount 17 = .ok (.ifCond .eq 7, 3) := by decide +kernel
theorem dX6_tellsCount_20 : decode cX6_tellsCount 20 = .ok (.iconst 1, 1) := by decide +kernel
theorem dX6_tellsCount_21 : decode cX6_tellsCount 21 = .ok (.goto 4, 3) := by decide +kernel
theorem dX6_tellsCount_24 : decode cX6_tellsCount 24 = .ok (.iconst 0, 1) := by decide +kernel
theorem dX6_tellsCount_25 : decode cX6_tellsCount 25 = .ok (.iadd, 1) := by decide +kernel
theorem dX6_tellsCount_26 : decode cX6_tellsCount 26 = .ok (.istore_n 2, 1) := by decide +kernel
theorem dX6_tellsCount_27 : decode cX6_tellsCount 27 = .ok (.iinc 3 1, 3) := by decide +kernel
theorem dX6_tellsCount_30 : decode cX6_tellsCount 30 = .ok (.goto (-26), 3) := by decide +kernel
theorem dX6_tellsCount_33 : decode cX6_tellsCount 33 = .ok (.iload_n 1, 1) := by decide +kernel
theorem dX6_tellsCount_34 : decode cX6_tellsCount 34 = .ok (.ifCond .ne 10, 3) := by decide +kernel
theorem dX6_tellsCount_37 : decode cX6_tellsCount 37 = .ok (.aload_n 0, 1) := by decide +kernel
theorem dX6_tellsCount_38 : decode cX6_tellsCount 38 = .ok (.getfield 110, 3) := by decide +kernel
theorem dX6_tellsCount_41 : decode cX6_tellsCount 41 = .ok (.goto 40, 3) := by decide +kernel
theorem dX6_tellsCount_44 : decode cX6_tellsCount 44 = .ok (.iload_n 1, 1) := by decide +kernel
theorem dX6_tellsCount_45 : decode cX6_tellsCount 45 = .ok (.iconst 1, 1) := by decide +kernel
theorem dX6_tellsCount_46 : decode cX6_tellsCount 46 = .ok (.if_icmp .ne 10, 3) := by decide +kernel
theorem dX6_tellsCount_49 : decode cX6_tellsCount 49 = .ok (.aload_n 0, 1) := by decide +kernel
theorem dX6_tellsCount_50 : decode cX6_tellsCount 50 = .ok (.getfield 113, 3) := by decide +kernel
theorem dX6_tellsCount_53 : decode cX6_tellsCount 53 = .ok (.goto 28, 3) := by decide +kernel
theorem dX6_tellsCount_56 : decode cX6_tellsCount 56 = .ok (.iload_n 1, 1) := by decide +kernel
theorem dX6_tellsCount_57 : decode cX6_tellsCount 57 = .ok (.iconst 2, 1) := by decide +kernel
theorem dX6_tellsCount_58 : decode cX6_tellsCount 58 = .ok (.if_icmp .ne 7, 3) := by decide +kernel
theorem dX6_tellsCount_61 : decode cX6_tellsCount 61 = .ok (.iload_n 2, 1) := by decide +kernel
theorem dX6_tellsCount_62 : decode cX6_tellsCount 62 = .ok (.goto 19, 3) := by decide +kernel
theorem dX6_tellsCount_65 : decode cX6_tellsCount 65 = .ok (.iload_n 1, 1) := by decide +kernel
theorem dX6_tellsCount_66 : decode cX6_tellsCount 66 = .ok (.iconst 3, 1) := by decide +kernel
theorem dX6_tellsCount_67 : decode cX6_tellsCount 67 = .ok (.if_icmp .ne 10, 3) := by decide +kernel
theorem dX6_tellsCount_70 : decode cX6_tellsCount 70 = .ok (.aload_n 0, 1) := by decide +kernel
theorem dX6_tellsCount_71 : decode cX6_tellsCount 71 = .ok (.getfield 168, 3) := by decide +kernel
theorem dX6_tellsCount_74 : decode cX6_tellsCount 74 = .ok (.goto 7, 3) := by decide +kernel
theorem dX6_tellsCount_77 : decode cX6_tellsCount 77 = .ok (.aload_n 0, 1) := by decide +kernel
theorem dX6_tellsCount_78 : decode cX6_tellsCount 78 = .ok (.invokevirtual 153, 3) := by decide +kernel
theorem dX6_tellsCount_81 : decode cX6_tellsCount 81 = .ok (.ireturn, 1) := by decide +kernel
set_option maxRecDepth 20000 in
theorem ggX6_count_X6_in : GoodIn wsX6_count wsX6_in := goodIn_r _ [4] rfl (by decide +kernel)
set_option maxRecDepth 20000 in
theorem gX6_count_X6_in : GoodIn wsX6_count (va_wsS RX6 87 yX6_in wsX6_in) := goodIn_app (goodIn_of _ (by decide +kernel)) ggX6_count_X6_in
set_option maxRecDepth 20000 in
theorem ggX6_count_X6_tellsCount : GoodIn wsX6_count wsX6_tellsCount := goodIn_r _ [8, 9, 10, 11, 12, 13, 14, 15, 3, 16, 17, 18, 19, 20, 21, 22, 23, 24, 25, 26, 27, 28, 29, 30, 31, 32, 33, 34, 35, 36, 37, 38, 39, 40, 41, 42, 43, 44, 45, 46, 47, 48] rfl (by decide +kernel)
set_option maxRecDepth 20000 in
theorem gX6_count_X6_tellsCount : GoodIn wsX6_count (wsV RX6 188 RX6 yX6_tellsCount wsX6_tellsCount) := goodIn_app (goodIn_of _ (by decide +kernel)) ggX6_count_X6_tellsCount
theorem dX6_count_0 : decode cX6_count 0 = .ok (.iload_n 1, 1) := by decide +kernel
theorem dX6_count_1 : decode cX6_count 1 = .ok (.iconst 0, 1) := by decide +kernel
theorem dX6_count_2 : decode cX6_count 2 = .ok (.iconst 4, 1) := by decide +kernel
theorem dX6_count_3 : decode cX6_count 3 = .ok (.invokestatic 87, 3) := by decide +kernel
theorem dX6_count_6 : decode cX6_count 6 = .ok (.ifCond .eq 11, 3) := by decide +kernel
theorem dX6_count_9 : decode cX6_count 9 = .ok (.aload_n 0, 1) := by decide +kernel
theorem dX6_count_10 : decode cX6_count 10 = .ok (.iload_n 1, 1) := by decide +kernel
theorem dX6_count_11 : decode cX6_count 11 = .ok (.invokevirtual 188, 3) := by decide +kernel
theorem dX6_count_14 : decode cX6_count 14 = .ok (.goto 4, 3) := by decide +kernel
theorem dX6_count_17 : decode cX6_count 17 = .ok (.iconst (-1), 1) := by decide +kernel
theorem dX6_count_18 : decode cX6_count 18 = .ok (.ireturn, 1) := by decide +kernel
theorem dX6_finding_0 : decode cX6_finding 0 = .ok (.aload_n 0, 1) := by decide +kernel
theorem dX6_finding_1 : decode cX6_finding 1 = .ok (.getfield 84, 3) := by decide +kernel
theorem dX6_finding_4 : decode cX6_finding 4 = .ok (.ireturn, 1) := by decide +kernel
set_option maxRecDepth 20000 in
theorem ggX6_findings_X6_in : GoodIn wsX6_findings wsX6_in := goodIn_r _ [5] rfl (by decide +kernel)
set_option maxRecDepth 20000 in
theorem gX6_findings_X6_in : GoodIn wsX6_findings (va_wsS RX6 87 yX6_in wsX6_in) := goodIn_app (goodIn_of _ (by decide +kernel)) ggX6_findings_X6_in
theorem dX6_findings_0 : decode cX6_findings 0 = .ok (.iload_n 1, 1) := by decide +kernel
theorem dX6_findings_1 : decode cX6_findings 1 = .ok (.iconst 1, 1) := by decide +kernel
theorem dX6_findings_2 : decode cX6_findings 2 = .ok (.iconst 5, 1) := by decide +kernel
theorem dX6_findings_3 : decode cX6_findings 3 = .ok (.invokestatic 87, 3) := by decide +kernel
theorem dX6_findings_6 : decode cX6_findings 6 = .ok (.ifCond .eq 12, 3) := by decide +kernel
theorem dX6_findings_9 : decode cX6_findings 9 = .ok (.aload_n 0, 1) := by decide +kernel
theorem dX6_findings_10 : decode cX6_findings 10 = .ok (.getfield 7, 3) := by decide +kernel
theorem dX6_findings_13 : decode cX6_findings 13 = .ok (.iload_n 1, 1) := by decide +kernel
theorem dX6_findings_14 : decode cX6_findings 14 = .ok (.iaload, 1) := by decide +kernel
theorem dX6_findings_15 : decode cX6_findings 15 = .ok (.goto 4, 3) := by decide +kernel
theorem dX6_findings_18 : decode cX6_findings 18 = .ok (.iconst (-1), 1) := by decide +kernel
theorem dX6_findings_19 : decode cX6_findings 19 = .ok (.ireturn, 1) := by decide +kernel
set_option maxRecDepth 20000 in
theorem ggX6_digest_X6_tellsCount : GoodIn wsX6_digest wsX6_tellsCount := goodIn_r _ [10, 4, 3, 11, 12, 13, 14, 15, 9, 16, 17, 32, 33, 34, 35, 36, 37, 38, 39, 40, 41, 42, 43, 44, 45, 46, 47, 48, 49, 50, 51, 52, 53, 54, 55, 56, 57, 58, 59, 60, 61, 62] rfl (by decide +kernel)
set_option maxRecDepth 20000 in
theorem gX6_digest_X6_tellsCount : GoodIn wsX6_digest (wsV RX6 188 RX6 yX6_tellsCount wsX6_tellsCount) := goodIn_app (goodIn_of _ (by decide +kernel)) ggX6_digest_X6_tellsCount
set_option maxRecDepth 20000 in
theorem ggX6_digest_X6_tells : GoodIn wsX6_digest wsX6_tells := goodIn_r _ [21, 22, 23, 24, 25, 17, 26, 27, 28, 29, 9, 30, 31, 32, 33, 34, 35, 36, 37, 38, 39, 40, 41, 42, 43, 44, 45, 46, 47, 48, 49, 50, 51, 52, 53, 54, 55, 56, 57, 58, 59, 60, 61, 62] rfl (by decide +kernel)
set_option maxRecDepth 20000 in
theorem gX6_digest_X6_tells : GoodIn wsX6_digest (wsV RX6 125 RX6 yX6_tells wsX6_tells) := goodIn_app (goodIn_of _ (by decide +kernel)) ggX6_digest_X6_tells
theorem dX6_digest_0 : decode cX6_digest 0 = .ok (.ldc2_w 191, 3) := by decide +kernel
theorem dX6_digest_3 : decode cX6_digest 3 = .ok (.lstore_n 1, 1) := by decide +kernel
theorem dX6_digest_4 : decode cX6_digest 4 = .ok (.iconst 0, 1) := by decide +kernel
theorem dX6_digest_5 : decode cX6_digest 5 = .ok (.istore_n 3, 1) := by decide +kernel
theorem dX6_digest_6 : decode cX6_digest 6 = .ok (.iload_n 3, 1) := by decide +kernel
theorem dX6_digest_7 : decode cX6_digest 7 = .ok (.iconst 4, 1) := by decide +kernel
theorem dX6_digest_8 : decode cX6_digest 8 = .ok (.if_icmp .gt 22, 3) := by decide +kernel
theorem dX6_digest_11 : decode cX6_digest 11 = .ok (.ldc2_w 193, 3) := by decide +kernel
theorem dX6_digest_14 : decode cX6_digest 14 = .ok (.lload_n 1, 1) := by decide +kernel
theorem dX6_digest_15 : decode cX6_digest 15 = .ok (.lmul, 1) := by decide +kernel
theorem dX6_digest_16 : decode cX6_digest 16 = .ok (.aload_n 0, 1) := by decide +kernel
theorem dX6_digest_17 : decode cX6_digest 17 = .ok (.iload_n 3, 1) := by decide +kernel
theorem dX6_digest_18 : decode cX6_digest 18 = .ok (.invokevirtual 188, 3) := by decide +kernel
theorem dX6_digest_21 : decode cX6_digest 21 = .ok (.i2l, 1) := by decide +kernel
theorem dX6_digest_22 : decode cX6_digest 22 = .ok (.ladd, 1) := by decide +kernel
theorem dX6_digest_23 : decode cX6_digest 23 = .ok (.lstore_n 1, 1) := by decide +kernel
theorem dX6_digest_24 : decode cX6_digest 24 = .ok (.iinc 3 1, 3) := by decide +kernel
theorem dX6_digest_27 : decode cX6_digest 27 = .ok (.goto (-21), 3) := by decide +kernel
theorem dX6_digest_30 : decode cX6_digest 30 = .ok (.iconst 0, 1) := by decide +kernel
theorem dX6_digest_31 : decode cX6_digest 31 = .ok (.istore_n 3, 1) := by decide +kernel
theorem dX6_digest_32 : decode cX6_digest 32 = .ok (.iload_n 3, 1) := by decide +kernel
theorem dX6_digest_33 : decode cX6_digest 33 = .ok (.aload_n 0, 1) := by decide +kernel
theorem dX6_digest_34 : decode cX6_digest 34 = .ok (.getfield 110, 3) := by decide +kernel
theorem dX6_digest_37 : decode cX6_digest 37 = .ok (.if_icmp .ge 40, 3) := by decide +kernel
theorem dX6_digest_40 : decode cX6_digest 40 = .ok (.iconst 0, 1) := by decide +kernel
theorem dX6_digest_41 : decode cX6_digest 41 = .ok (.istore 4, 2) := by decide +kernel
theorem dX6_digest_43 : decode cX6_digest 43 = .ok (.iload 4, 2) := by decide +kernel
theorem dX6_digest_45 : decode cX6_digest 45 = .ok (.bipush 6, 2) := by decide +kernel
theorem dX6_digest_47 : decode cX6_digest 47 = .ok (.if_icmp .gt 24, 3) := by decide +kernel
theorem dX6_digest_50 : decode cX6_digest 50 = .ok (.ldc2_w 193, 3) := by decide +kernel
theorem dX6_digest_53 : decode cX6_digest 53 = .ok (.lload_n 1, 1) := by decide +kernel
theorem dX6_digest_54 : decode cX6_digest 54 = .ok (.lmul, 1) := by decide +kernel
theorem dX6_digest_55 : decode cX6_digest 55 = .ok (.aload_n 0, 1) := by decide +kernel
theorem dX6_digest_56 : decode cX6_digest 56 = .ok (.iload_n 3, 1) := by decide +kernel
theorem dX6_digest_57 : decode cX6_digest 57 = .ok (.iload 4, 2) := by decide +kernel
theorem dX6_digest_59 : decode cX6_digest 59 = .ok (.invokevirtual 125, 3) := by decide +kernel
theorem dX6_digest_62 : decode cX6_digest 62 = .ok (.i2l, 1) := by decide +kernel
theorem dX6_digest_63 : decode cX6_digest 63 = .ok (.ladd, 1) := by decide +kernel
theorem dX6_digest_64 : decode cX6_digest 64 = .ok (.lstore_n 1, 1) := by decide +kernel
theorem dX6_digest_65 : decode cX6_digest 65 = .ok (.iinc 4 1, 3) := by decide +kernel
theorem dX6_digest_68 : decode cX6_digest 68 = .ok (.goto (-25), 3) := by decide +kernel
theorem dX6_digest_71 : decode cX6_digest 71 = .ok (.iinc 3 1, 3) := by decide +kernel
theorem dX6_digest_74 : decode cX6_digest 74 = .ok (.goto (-42), 3) := by decide +kernel
theorem dX6_digest_77 : decode cX6_digest 77 = .ok (.iconst 0, 1) := by decide +kernel
theorem dX6_digest_78 : decode cX6_digest 78 = .ok (.istore_n 3, 1) := by decide +kernel
theorem dX6_digest_79 : decode cX6_digest 79 = .ok (.iload_n 3, 1) := by decide +kernel
theorem dX6_digest_80 : decode cX6_digest 80 = .ok (.bipush 12, 2) := by decide +kernel
theorem dX6_digest_82 : decode cX6_digest 82 = .ok (.if_icmp .ge 73, 3) := by decide +kernel
theorem dX6_digest_85 : decode cX6_digest 85 = .ok (.aload_n 0, 1) := by decide +kernel
theorem dX6_digest_86 : decode cX6_digest 86 = .ok (.getfield 17, 3) := by decide +kernel
theorem dX6_digest_89 : decode cX6_digest 89 = .ok (.iload_n 3, 1) := by decide +kernel
theorem dX6_digest_90 : decode cX6_digest 90 = .ok (.baload, 1) := by decide +kernel
theorem dX6_digest_91 : decode cX6_digest 91 = .ok (.ifCond .ne 11, 3) := by decide +kernel
theorem dX6_digest_94 : decode cX6_digest 94 = .ok (.ldc2_w 193, 3) := by decide +kernel
theorem dX6_digest_97 : decode cX6_digest 97 = .ok (.lload_n 1, 1) := by decide +kernel
theorem dX6_digest_98 : decode cX6_digest 98 = .ok (.lmul, 1) := by decide +kernel
theorem dX6_digest_99 : decode cX6_digest 99 = .ok (.lconst 1, 1) := by decide +kernel
theorem dX6_digest_100 : decode cX6_digest 100 = .ok (.lsub, 1) := by decide +kernel
theorem dX6_digest_101 : decode cX6_digest 101 = .ok (.lstore_n 1, 1) := by decide +kernel
theorem dX6_digest_102 : decode cX6_digest 102 = .ok (.iconst 0, 1) := by decide +kernel
theorem dX6_digest_103 : decode cX6_digest 103 = .ok (.istore 4, 2) := by decide +kernel
theorem dX6_digest_105 : decode cX6_digest 105 = .ok (.iload 4, 2) := by decide +kernel
theorem dX6_digest_107 : decode cX6_digest 107 = .ok (.sipush 160, 3) := by decide +kernel
theorem dX6_digest_110 : decode cX6_digest 110 = .ok (.if_icmp .ge 39, 3) := by decide +kernel
theorem dX6_digest_113 : decode cX6_digest 113 = .ok (.aload_n 0, 1) := by decide +kernel
theorem dX6_digest_114 : decode cX6_digest 114 = .ok (.getfield 17, 3) := by decide +kernel
theorem dX6_digest_117 : decode cX6_digest 117 = .ok (.iload_n 3, 1) := by decide +kernel
theorem dX6_digest_118 : decode cX6_digest 118 = .ok (.baload, 1) := by decide +kernel
theorem dX6_digest_119 : decode cX6_digest 119 = .ok (.ifCond .eq 30, 3) := by decide +kernel
theorem dX6_digest_122 : decode cX6_digest 122 = .ok (.ldc2_w 193, 3) := by decide +kernel
theorem dX6_digest_125 : decode cX6_digest 125 = .ok (.lload_n 1, 1) := by decide +kernel
theorem dX6_digest_126 : decode cX6_digest 126 = .ok (.lmul, 1) := by decide +kernel
theorem dX6_digest_127 : decode cX6_digest 127 = .ok (.aload_n 0, 1) := by decide +kernel
theorem dX6_digest_128 : decode cX6_digest 128 = .ok (.getfield 20, 3) := by decide +kernel
theorem dX6_digest_131 : decode cX6_digest 131 = .ok (.sipush 160, 3) := by decide +kernel
theorem dX6_digest_134 : decode cX6_digest 134 = .ok (.iload_n 3, 1) := by decide +kernel
theorem dX6_digest_135 : decode cX6_digest 135 = .ok (.imul, 1) := by decide +kernel
theorem dX6_digest_136 : decode cX6_digest 136 = .ok (.iload 4, 2) := by decide +kernel
theorem dX6_digest_138 : decode cX6_digest 138 = .ok (.iadd, 1) := by decide +kernel
theorem dX6_digest_139 : decode cX6_digest 139 = .ok (.iaload, 1) := by decide +kernel
theorem dX6_digest_140 : decode cX6_digest 140 = .ok (.i2l, 1) := by decide +kernel
theorem dX6_digest_141 : decode cX6_digest 141 = .ok (.ladd, 1) := by decide +kernel
theorem dX6_digest_142 : decode cX6_digest 142 = .ok (.lstore_n 1, 1) := by decide +kernel
theorem dX6_digest_143 : decode cX6_digest 143 = .ok (.iinc 4 1, 3) := by decide +kernel
theorem dX6_digest_146 : decode cX6_digest 146 = .ok (.goto (-41), 3) := by decide +kernel
theorem dX6_digest_149 : decode cX6_digest 149 = .ok (.iinc 3 1, 3) := by decide +kernel
theorem dX6_digest_152 : decode cX6_digest 152 = .ok (.goto (-73), 3) := by decide +kernel
theorem dX6_digest_155 : decode cX6_digest 155 = .ok (.lload_n 1, 1) := by decide +kernel
theorem dX6_digest_156 : decode cX6_digest 156 = .ok (.lreturn, 1) := by decide +kernel
theorem dJ9_floorMod_7cf53_0 : decode cJ9_floorMod_7cf53 0 = .ok (.iload_n 0, 1) := by decide +kernel
theorem dJ9_floorMod_7cf53_1 : decode cJ9_floorMod_7cf53 1 = .ok (.iload_n 1, 1) := by decide +kernel
theorem dJ9_floorMod_7cf53_2 : decode cJ9_floorMod_7cf53 2 = .ok (.irem, 1) := by decide +kernel
theorem dJ9_floorMod_7cf53_3 : decode cJ9_floorMod_7cf53 3 = .ok (.istore_n 2, 1) := by decide +kernel
theorem dJ9_floorMod_7cf53_4 : decode cJ9_floorMod_7cf53 4 = .ok (.iload_n 0, 1) := by decide +kernel
theorem dJ9_floorMod_7cf53_5 : decode cJ9_floorMod_7cf53 5 = .ok (.iload_n 1, 1) := by decide +kernel
theorem dJ9_floorMod_7cf53_6 : decode cJ9_floorMod_7cf53 6 = .ok (.ixor, 1) := by decide +kernel
theorem dJ9_floorMod_7cf53_7 : decode cJ9_floorMod_7cf53 7 = .ok (.ifCond .ge 11, 3) := by decide +kernel
theorem dJ9_floorMod_7cf53_10 : decode cJ9_floorMod_7cf53 10 = .ok (.iload_n 2, 1) := by decide +kernel
theorem dJ9_floorMod_7cf53_11 : decode cJ9_floorMod_7cf53 11 = .ok (.ifCond .eq 7, 3) := by decide +kernel
theorem dJ9_floorMod_7cf53_14 : decode cJ9_floorMod_7cf53 14 = .ok (.iload_n 2, 1) := by decide +kernel
theorem dJ9_floorMod_7cf53_15 : decode cJ9_floorMod_7cf53 15 = .ok (.iload_n 1, 1) := by decide +kernel
theorem dJ9_floorMod_7cf53_16 : decode cJ9_floorMod_7cf53 16 = .ok (.iadd, 1) := by decide +kernel
theorem dJ9_floorMod_7cf53_17 : decode cJ9_floorMod_7cf53 17 = .ok (.ireturn, 1) := by decide +kernel
theorem dJ9_floorMod_7cf53_18 : decode cJ9_floorMod_7cf53 18 = .ok (.iload_n 2, 1) := by decide +kernel
theorem dJ9_floorMod_7cf53_19 : decode cJ9_floorMod_7cf53 19 = .ok (.ireturn, 1) := by decide +kernel
theorem dJ9_abs_0f7a4_0 : decode cJ9_abs_0f7a4 0 = .ok (.iload_n 0, 1) := by decide +kernel
theorem dJ9_abs_0f7a4_1 : decode cJ9_abs_0f7a4 1 = .ok (.ifCond .ge 8, 3) := by decide +kernel
theorem dJ9_abs_0f7a4_4 : decode cJ9_abs_0f7a4 4 = .ok (.iload_n 0, 1) := by decide +kernel
theorem dJ9_abs_0f7a4_5 : decode cJ9_abs_0f7a4 5 = .ok (.ineg, 1) := by decide +kernel
theorem dJ9_abs_0f7a4_6 : decode cJ9_abs_0f7a4 6 = .ok (.goto 4, 3) := by decide +kernel
theorem dJ9_abs_0f7a4_9 : decode cJ9_abs_0f7a4 9 = .ok (.iload_n 0, 1) := by decide +kernel
theorem dJ9_abs_0f7a4_10 : decode cJ9_abs_0f7a4 10 = .ok (.ireturn, 1) := by decide +kernel
theorem dJ9_max_7cf53_0 : decode cJ9_max_7cf53 0 = .ok (.iload_n 0, 1) := by decide +kernel
theorem dJ9_max_7cf53_1 : decode cJ9_max_7cf53 1 = .ok (.iload_n 1, 1) := by decide +kernel
theorem dJ9_max_7cf53_2 : decode cJ9_max_7cf53 2 = .ok (.if_icmp .lt 7, 3) := by decide +kernel
theorem dJ9_max_7cf53_5 : decode cJ9_max_7cf53 5 = .ok (.iload_n 0, 1) := by decide +kernel
theorem dJ9_max_7cf53_6 : decode cJ9_max_7cf53 6 = .ok (.goto 4, 3) := by decide +kernel
theorem dJ9_max_7cf53_9 : decode cJ9_max_7cf53 9 = .ok (.iload_n 1, 1) := by decide +kernel
theorem dJ9_max_7cf53_10 : decode cJ9_max_7cf53 10 = .ok (.ireturn, 1) := by decide +kernel
theorem dJ9_min_7cf53_0 : decode cJ9_min_7cf53 0 = .ok (.iload_n 0, 1) := by decide +kernel
theorem dJ9_min_7cf53_1 : decode cJ9_min_7cf53 1 = .ok (.iload_n 1, 1) := by decide +kernel
theorem dJ9_min_7cf53_2 : decode cJ9_min_7cf53 2 = .ok (.if_icmp .gt 7, 3) := by decide +kernel
theorem dJ9_min_7cf53_5 : decode cJ9_min_7cf53 5 = .ok (.iload_n 0, 1) := by decide +kernel
theorem dJ9_min_7cf53_6 : decode cJ9_min_7cf53 6 = .ok (.goto 4, 3) := by decide +kernel
theorem dJ9_min_7cf53_9 : decode cJ9_min_7cf53 9 = .ok (.iload_n 1, 1) := by decide +kernel
theorem dJ9_min_7cf53_10 : decode cJ9_min_7cf53 10 = .ok (.ireturn, 1) := by decide +kernel
theorem dJxa1e45_init_da8c8_0 : decode cJxa1e45_init_da8c8 0 = .ok (.aload_n 0, 1) := by decide +kernel
theorem dJxa1e45_init_da8c8_1 : decode cJxa1e45_init_da8c8 1 = .ok (.invokespecial 1, 3) := by decide +kernel
theorem dJxa1e45_init_da8c8_4 : decode cJxa1e45_init_da8c8 4 = .ok (.return_, 1) := by decide +kernel
set_option maxRecDepth 20000 in
theorem ggJxc12de_init_da8c8_Jxa1e45_init_da8c8 : GoodIn wsJxc12de_init_da8c8 wsJxa1e45_init_da8c8 := goodIn_r _ [5, 6, 7, 8] rfl (by decide +kernel)
set_option maxRecDepth 20000 in
theorem gJxc12de_init_da8c8_Jxa1e45_init_da8c8 : GoodIn wsJxc12de_init_da8c8 (wsJxa1e45_init_da8c8) := ggJxc12de_init_da8c8_Jxa1e45_init_da8c8
theorem dJxc12de_init_da8c8_0 : decode cJxc12de_init_da8c8 0 = .ok (.aload_n 0, 1) := by decide +kernel
theorem dJxc12de_init_da8c8_1 : decode cJxc12de_init_da8c8 1 = .ok (.invokespecial 1, 3) := by decide +kernel
theorem dJxc12de_init_da8c8_4 : decode cJxc12de_init_da8c8 4 = .ok (.aload_n 0, 1) := by decide +kernel
theorem dJxc12de_init_da8c8_5 : decode cJxc12de_init_da8c8 5 = .ok (.iconst 0, 1) := by decide +kernel
theorem dJxc12de_init_da8c8_6 : decode cJxc12de_init_da8c8 6 = .ok (.putfield 7, 3) := by decide +kernel
theorem dJxc12de_init_da8c8_9 : decode cJxc12de_init_da8c8 9 = .ok (.return_, 1) := by decide +kernel
set_option maxRecDepth 20000 in
theorem ggJx4a65c_init_da8c8_Jxc12de_init_da8c8 : GoodIn wsJx4a65c_init_da8c8 wsJxc12de_init_da8c8 := goodIn_r _ [6, 7, 8, 9, 10, 11, 12, 13, 14, 15, 16, 17] rfl (by decide +kernel)
set_option maxRecDepth 20000 in
theorem gJx4a65c_init_da8c8_Jxc12de_init_da8c8 : GoodIn wsJx4a65c_init_da8c8 (wsJxc12de_init_da8c8) := ggJx4a65c_init_da8c8_Jxc12de_init_da8c8
theorem dJx4a65c_init_da8c8_0 : decode cJx4a65c_init_da8c8 0 = .ok (.aload_n 0, 1) := by decide +kernel
theorem dJx4a65c_init_da8c8_1 : decode cJx4a65c_init_da8c8 1 = .ok (.invokespecial 1, 3) := by decide +kernel
theorem dJx4a65c_init_da8c8_4 : decode cJx4a65c_init_da8c8 4 = .ok (.aload_n 0, 1) := by decide +kernel
theorem dJx4a65c_init_da8c8_5 : decode cJx4a65c_init_da8c8 5 = .ok (.getstatic 39, 3) := by decide +kernel
theorem dJx4a65c_init_da8c8_8 : decode cJx4a65c_init_da8c8 8 = .ok (.putfield 9, 3) := by decide +kernel
theorem dJx4a65c_init_da8c8_11 : decode cJx4a65c_init_da8c8 11 = .ok (.return_, 1) := by decide +kernel
set_option maxRecDepth 20000 in
theorem ggJx4a65c_grow_92f84_J8_newLength_cabcc : GoodIn wsJx4a65c_grow_92f84 wsJ8_newLength_cabcc := goodIn_r _ [11, 12, 4, 5, 6, 13, 14, 15, 10, 16] rfl (by decide +kernel)
set_option maxRecDepth 20000 in
theorem gJx4a65c_grow_92f84_J8_newLength_cabcc : GoodIn wsJx4a65c_grow_92f84 (va_wsS RJx4a65c 73 yJ8_newLength_cabcc wsJ8_newLength_cabcc) := goodIn_app (goodIn_of _ (by decide +kernel)) ggJx4a65c_grow_92f84_J8_newLength_cabcc
set_option maxRecDepth 20000 in
theorem ggJx4a65c_grow_92f84_J7_copyOf_1904c : GoodIn wsJx4a65c_grow_92f84 wsJ7_copyOf_1904c := goodIn_r _ [20, 21, 22, 23, 24, 25, 26, 19, 27, 28, 29, 30, 31, 5, 32, 33, 34, 35, 36] rfl (by decide +kernel)
set_option maxRecDepth 20000 in
theorem gJx4a65c_grow_92f84_J7_copyOf_1904c : GoodIn wsJx4a65c_grow_92f84 (va_wsS RJx4a65c 66 yJ7_copyOf_1904c wsJ7_copyOf_1904c) := goodIn_app (goodIn_of _ (by decide +kernel)) ggJx4a65c_grow_92f84_J7_copyOf_1904c
theorem dJx4a65c_grow_92f84_0 : decode cJx4a65c_grow_92f84 0 = .ok (.aload_n 0, 1) := by decide +kernel
theorem dJx4a65c_grow_92f84_1 : decode cJx4a65c_grow_92f84 1 = .ok (.getfield 9, 3) := by decide +kernel
theorem dJx4a65c_grow_92f84_4 : decode cJx4a65c_grow_92f84 4 = .ok (.arraylength, 1) := by decide +kernel
theorem dJx4a65c_grow_92f84_5 : decode cJx4a65c_grow_92f84 5 = .ok (.istore_n 2, 1) := by decide +kernel
theorem dJx4a65c_grow_92f84_6 : decode cJx4a65c_grow_92f84 6 = .ok (.iload_n 2, 1) := by decide +kernel
theorem dJx4a65c_grow_92f84_7 : decode cJx4a65c_grow_92f84 7 = .ok (.ifCond .gt 13, 3) := by decide +kernel
theorem dJx4a65c_grow_92f84_10 : decode cJx4a65c_grow_92f84 10 = .ok (.aload_n 0, 1) := by decide +kernel
theorem dJx4a65c_grow_92f84_11 : decode cJx4a65c_grow_92f84 11 = .ok (.getfield 9, 3) := by decide +kernel
theorem dJx4a65c_grow_92f84_14 : decode cJx4a65c_grow_92f84 14 = .ok (.getstatic 39, 3) := by decide +kernel
theorem dJx4a65c_grow_92f84_17 : decode cJx4a65c_grow_92f84 17 = .ok (.if_acmp .eq 28, 3) := by decide +kernel
theorem dJx4a65c_grow_92f84_20 : decode cJx4a65c_grow_92f84 20 = .ok (.iload_n 2, 1) := by decide +kernel
theorem dJx4a65c_grow_92f84_21 : decode cJx4a65c_grow_92f84 21 = .ok (.iload_n 1, 1) := by decide +kernel
theorem dJx4a65c_grow_92f84_22 : decode cJx4a65c_grow_92f84 22 = .ok (.iload_n 2, 1) := by decide +kernel
theorem dJx4a65c_grow_92f84_23 : decode cJx4a65c_grow_92f84 23 = .ok (.isub, 1) := by decide +kernel
theorem dJx4a65c_grow_92f84_24 : decode cJx4a65c_grow_92f84 24 = .ok (.iload_n 2, 1) := by decide +kernel
theorem dJx4a65c_grow_92f84_25 : decode cJx4a65c_grow_92f84 25 = .ok (.iconst 1, 1) := by decide +kernel
theorem dJx4a65c_grow_92f84_26 : decode cJx4a65c_grow_92f84 26 = .ok (.ishr, 1) := by decide +kernel
theorem dJx4a65c_grow_92f84_27 : decode cJx4a65c_grow_92f84 27 = .ok (.invokestatic 73, 3) := by decide +kernel
theorem dJx4a65c_grow_92f84_30 : decode cJx4a65c_grow_92f84 30 = .ok (.istore_n 3, 1) := by decide +kernel
theorem dJx4a65c_grow_92f84_31 : decode cJx4a65c_grow_92f84 31 = .ok (.aload_n 0, 1) := by decide +kernel
theorem dJx4a65c_grow_92f84_32 : decode cJx4a65c_grow_92f84 32 = .ok (.aload_n 0, 1) := by decide +kernel
theorem dJx4a65c_grow_92f84_33 : decode cJx4a65c_grow_92f84 33 = .ok (.getfield 9, 3) := by decide +kernel
theorem dJx4a65c_grow_92f84_36 : decode cJx4a65c_grow_92f84 36 = .ok (.iload_n 3, 1) := by decide +kernel
theorem dJx4a65c_grow_92f84_37 : decode cJx4a65c_grow_92f84 37 = .ok (.invokestatic 66, 3) := by decide +kernel
theorem dJx4a65c_grow_92f84_40 : decode cJx4a65c_grow_92f84 40 = .ok (.dup_x1, 1) := by decide +kernel
theorem dJx4a65c_grow_92f84_41 : decode cJx4a65c_grow_92f84 41 = .ok (.putfield 9, 3) := by decide +kernel
theorem dJx4a65c_grow_92f84_44 : decode cJx4a65c_grow_92f84 44 = .ok (.areturn, 1) := by decide +kernel
theorem dJx4a65c_grow_92f84_45 : decode cJx4a65c_grow_92f84 45 = .ok (.aload_n 0, 1) := by decide +kernel
theorem dJx4a65c_grow_92f84_46 : decode cJx4a65c_grow_92f84 46 = .ok (.bipush 10, 2) := by decide +kernel
theorem dJx4a65c_grow_92f84_48 : decode cJx4a65c_grow_92f84 48 = .ok (.iload_n 1, 1) := by decide +kernel
theorem dJx4a65c_grow_92f84_49 : decode cJx4a65c_grow_92f84 49 = .ok (.invokestatic 79, 3) := by decide +kernel
theorem dJx4a65c_grow_92f84_52 : decode cJx4a65c_grow_92f84 52 = .ok (.anewarray 7, 3) := by decide +kernel
theorem dJx4a65c_grow_92f84_55 : decode cJx4a65c_grow_92f84 55 = .ok (.dup_x1, 1) := by decide +kernel
theorem dJx4a65c_grow_92f84_56 : decode cJx4a65c_grow_92f84 56 = .ok (.putfield 9, 3) := by decide +kernel
theorem dJx4a65c_grow_92f84_59 : decode cJx4a65c_grow_92f84 59 = .ok (.areturn, 1) := by decide +kernel
set_option maxRecDepth 20000 in
theorem ggJx4a65c_grow_d5877_Jx4a65c_grow_92f84 : GoodIn wsJx4a65c_grow_d5877 wsJx4a65c_grow_92f84 := goodIn_r _ [6, 7, 8, 9, 10, 11, 12, 13, 14, 15, 16, 17, 18, 19, 20, 21, 22, 23, 24, 25, 26, 27, 28, 29, 30, 31, 32, 33, 34, 35, 36, 37, 38, 39, 40, 41, 42, 43, 44, 45] rfl (by decide +kernel)
set_option maxRecDepth 20000 in
theorem gJx4a65c_grow_d5877_Jx4a65c_grow_92f84 : GoodIn wsJx4a65c_grow_d5877 (wsV RJx4a65c 69 RJx4a65c yJx4a65c_grow_92f84 wsJx4a65c_grow_92f84) := goodIn_app (goodIn_of _ (by decide +kernel)) ggJx4a65c_grow_d5877_Jx4a65c_grow_92f84
theorem dJx4a65c_grow_d5877_0 : decode cJx4a65c_grow_d5877 0 = .ok (.aload_n 0, 1) := by decide +kernel
theorem dJx4a65c_grow_d5877_1 : decode cJx4a65c_grow_d5877 1 = .ok (.aload_n 0, 1) := by decide +kernel
theorem dJx4a65c_grow_d5877_2 : decode cJx4a65c_grow_d5877 2 = .ok (.getfield 48, 3) := by decide +kernel
theorem dJx4a65c_grow_d5877_5 : decode cJx4a65c_grow_d5877 5 = .ok (.iconst 1, 1) := by decide +kernel
theorem dJx4a65c_grow_d5877_6 : decode cJx4a65c_grow_d5877 6 = .ok (.iadd, 1) := by decide +kernel
theorem dJx4a65c_grow_d5877_7 : decode cJx4a65c_grow_d5877 7 = .ok (.invokevirtual 69, 3) := by decide +kernel
theorem dJx4a65c_grow_d5877_10 : decode cJx4a65c_grow_d5877 10 = .ok (.areturn, 1) := by decide +kernel
theorem dJx4a65c_size_8abf5_0 : decode cJx4a65c_size_8abf5 0 = .ok (.aload_n 0, 1) := by decide +kernel
theorem dJx4a65c_size_8abf5_1 : decode cJx4a65c_size_8abf5 1 = .ok (.getfield 48, 3) := by decide +kernel
theorem dJx4a65c_size_8abf5_4 : decode cJx4a65c_size_8abf5 4 = .ok (.ireturn, 1) := by decide +kernel
theorem dJx4a65c_elementData_915e3_0 : decode cJx4a65c_elementData_915e3 0 = .ok (.aload_n 0, 1) := by decide +kernel
theorem dJx4a65c_elementData_915e3_1 : decode cJx4a65c_elementData_915e3 1 = .ok (.getfield 9, 3) := by decide +kernel
theorem dJx4a65c_elementData_915e3_4 : decode cJx4a65c_elementData_915e3 4 = .ok (.iload_n 1, 1) := by decide +kernel
theorem dJx4a65c_elementData_915e3_5 : decode cJx4a65c_elementData_915e3 5 = .ok (.aaload, 1) := by decide +kernel
theorem dJx4a65c_elementData_915e3_6 : decode cJx4a65c_elementData_915e3 6 = .ok (.areturn, 1) := by decide +kernel
set_option maxRecDepth 20000 in
theorem ggJx4a65c_get_915e3_J15_checkIndex_7cf53 : GoodIn wsJx4a65c_get_915e3 wsJ15_checkIndex_7cf53 := goodIn_r _ [5, 6, 7, 8, 9] rfl (by decide +kernel)
set_option maxRecDepth 20000 in
theorem gJx4a65c_get_915e3_J15_checkIndex_7cf53 : GoodIn wsJx4a65c_get_915e3 (va_wsS RJx4a65c 118 yJ15_checkIndex_7cf53 wsJ15_checkIndex_7cf53) := goodIn_app (goodIn_of _ (by decide +kernel)) ggJx4a65c_get_915e3_J15_checkIndex_7cf53
set_option maxRecDepth 20000 in
theorem ggJx4a65c_get_915e3_Jx4a65c_elementData_915e3 : GoodIn wsJx4a65c_get_915e3 wsJx4a65c_elementData_915e3 := goodIn_r _ [14, 15, 16, 17, 18] rfl (by decide +kernel)
set_option maxRecDepth 20000 in
theorem gJx4a65c_get_915e3_Jx4a65c_elementData_915e3 : GoodIn wsJx4a65c_get_915e3 (wsV RJx4a65c 123 RJx4a65c yJx4a65c_elementData_915e3 wsJx4a65c_elementData_915e3) := goodIn_app (goodIn_of _ (by decide +kernel)) ggJx4a65c_get_915e3_Jx4a65c_elementData_915e3
theorem dJx4a65c_get_915e3_0 : decode cJx4a65c_get_915e3 0 = .ok (.iload_n 1, 1) := by decide +kernel
theorem dJx4a65c_get_915e3_1 : decode cJx4a65c_get_915e3 1 = .ok (.aload_n 0, 1) := by decide +kernel
theorem dJx4a65c_get_915e3_2 : decode cJx4a65c_get_915e3 2 = .ok (.getfield 48, 3) := by decide +kernel
theorem dJx4a65c_get_915e3_5 : decode cJx4a65c_get_915e3 5 = .ok (.invokestatic 118, 3) := by decide +kernel
theorem dJx4a65c_get_915e3_8 : decode cJx4a65c_get_915e3 8 = .ok (.pop, 1) := by decide +kernel
theorem dJx4a65c_get_915e3_9 : decode cJx4a65c_get_915e3 9 = .ok (.aload_n 0, 1) := by decide +kernel
theorem dJx4a65c_get_915e3_10 : decode cJx4a65c_get_915e3 10 = .ok (.iload_n 1, 1) := by decide +kernel
theorem dJx4a65c_get_915e3_11 : decode cJx4a65c_get_915e3 11 = .ok (.invokevirtual 123, 3) := by decide +kernel
theorem dJx4a65c_get_915e3_14 : decode cJx4a65c_get_915e3 14 = .ok (.areturn, 1) := by decide +kernel
set_option maxRecDepth 20000 in
theorem ggJx4a65c_add_72be8_Jx4a65c_grow_d5877 : GoodIn wsJx4a65c_add_72be8 wsJx4a65c_grow_d5877 := goodIn_r _ [6, 1, 7, 8, 9, 5, 10, 11, 12, 13, 14, 15, 16, 17, 18, 19, 20, 21, 22, 23, 24, 25, 26, 27, 28, 29, 30, 31, 32, 33, 34, 35, 36, 37, 38, 39, 40, 41, 42, 43, 44, 45, 46, 47, 48, 49] rfl (by decide +kernel)
set_option maxRecDepth 20000 in
theorem gJx4a65c_add_72be8_Jx4a65c_grow_d5877 : GoodIn wsJx4a65c_add_72be8 (wsV RJx4a65c 129 RJx4a65c yJx4a65c_grow_d5877 wsJx4a65c_grow_d5877) := goodIn_app (goodIn_of _ (by decide +kernel)) ggJx4a65c_add_72be8_Jx4a65c_grow_d5877
theorem dJx4a65c_add_72be8_0 : decode cJx4a65c_add_72be8 0 = .ok (.iload_n 3, 1) := by decide +kernel
theorem dJx4a65c_add_72be8_1 : decode cJx4a65c_add_72be8 1 = .ok (.aload_n 2, 1) := by decide +kernel
theorem dJx4a65c_add_72be8_2 : decode cJx4a65c_add_72be8 2 = .ok (.arraylength, 1) := by decide +kernel
theorem dJx4a65c_add_72be8_3 : decode cJx4a65c_add_72be8 3 = .ok (.if_icmp .ne 8, 3) := by decide +kernel
theorem dJx4a65c_add_72be8_6 : decode cJx4a65c_add_72be8 6 = .ok (.aload_n 0, 1) := by decide +kernel
theorem dJx4a65c_add_72be8_7 : decode cJx4a65c_add_72be8 7 = .ok (.invokevirtual 129, 3) := by decide +kernel
theorem dJx4a65c_add_72be8_10 : decode cJx4a65c_add_72be8 10 = .ok (.astore_n 2, 1) := by decide +kernel
theorem dJx4a65c_add_72be8_11 : decode cJx4a65c_add_72be8 11 = .ok (.aload_n 2, 1) := by decide +kernel
theorem dJx4a65c_add_72be8_12 : decode cJx4a65c_add_72be8 12 = .ok (.iload_n 3, 1) := by decide +kernel
theorem dJx4a65c_add_72be8_13 : decode cJx4a65c_add_72be8 13 = .ok (.aload_n 1, 1) := by decide +kernel
theorem dJx4a65c_add_72be8_14 : decode cJx4a65c_add_72be8 14 = .ok (.aastore, 1) := by decide +kernel
theorem dJx4a65c_add_72be8_15 : decode cJx4a65c_add_72be8 15 = .ok (.aload_n 0, 1) := by decide +kernel
theorem dJx4a65c_add_72be8_16 : decode cJx4a65c_add_72be8 16 = .ok (.iload_n 3, 1) := by decide +kernel
theorem dJx4a65c_add_72be8_17 : decode cJx4a65c_add_72be8 17 = .ok (.iconst 1, 1) := by decide +kernel
theorem dJx4a65c_add_72be8_18 : decode cJx4a65c_add_72be8 18 = .ok (.iadd, 1) := by decide +kernel
theorem dJx4a65c_add_72be8_19 : decode cJx4a65c_add_72be8 19 = .ok (.putfield 48, 3) := by decide +kernel
theorem dJx4a65c_add_72be8_22 : decode cJx4a65c_add_72be8 22 = .ok (.return_, 1) := by decide +kernel
set_option maxRecDepth 20000 in
theorem ggJx4a65c_add_9ea2d_Jx4a65c_add_72be8 : GoodIn wsJx4a65c_add_9ea2d wsJx4a65c_add_72be8 := goodIn_r _ [9, 4, 10, 11, 12, 8, 13, 14, 15, 16, 17, 3, 18, 19, 20, 21, 22, 23, 24, 25, 26, 27, 28, 29, 30, 31, 32, 33, 34, 35, 36, 37, 38, 39, 40, 41, 42, 43, 44, 45, 46, 47, 48, 49, 50, 51, 52, 53, 54, 55] rfl (by decide +kernel)
set_option maxRecDepth 20000 in
theorem gJx4a65c_add_9ea2d_Jx4a65c_add_72be8 : GoodIn wsJx4a65c_add_9ea2d (wsV RJx4a65c 131 RJx4a65c yJx4a65c_add_72be8 wsJx4a65c_add_72be8) := goodIn_app (goodIn_of _ (by decide +kernel)) ggJx4a65c_add_9ea2d_Jx4a65c_add_72be8
theorem dJx4a65c_add_9ea2d_0 : decode cJx4a65c_add_9ea2d 0 = .ok (.aload_n 0, 1) := by decide +kernel
theorem dJx4a65c_add_9ea2d_1 : decode cJx4a65c_add_9ea2d 1 = .ok (.dup, 1) := by decide +kernel
theorem dJx4a65c_add_9ea2d_2 : decode cJx4a65c_add_9ea2d 2 = .ok (.getfield 63, 3) := by decide +kernel
theorem dJx4a65c_add_9ea2d_5 : decode cJx4a65c_add_9ea2d 5 = .ok (.iconst 1, 1) := by decide +kernel
theorem dJx4a65c_add_9ea2d_6 : decode cJx4a65c_add_9ea2d 6 = .ok (.iadd, 1) := by decide +kernel
theorem dJx4a65c_add_9ea2d_7 : decode cJx4a65c_add_9ea2d 7 = .ok (.putfield 63, 3) := by decide +kernel
theorem dJx4a65c_add_9ea2d_10 : decode cJx4a65c_add_9ea2d 10 = .ok (.aload_n 0, 1) := by decide +kernel
theorem dJx4a65c_add_9ea2d_11 : decode cJx4a65c_add_9ea2d 11 = .ok (.aload_n 1, 1) := by decide +kernel
theorem dJx4a65c_add_9ea2d_12 : decode cJx4a65c_add_9ea2d 12 = .ok (.aload_n 0, 1) := by decide +kernel
theorem dJx4a65c_add_9ea2d_13 : decode cJx4a65c_add_9ea2d 13 = .ok (.getfield 9, 3) := by decide +kernel
theorem dJx4a65c_add_9ea2d_16 : decode cJx4a65c_add_9ea2d 16 = .ok (.aload_n 0, 1) := by decide +kernel
theorem dJx4a65c_add_9ea2d_17 : decode cJx4a65c_add_9ea2d 17 = .ok (.getfield 48, 3) := by decide +kernel
theorem dJx4a65c_add_9ea2d_20 : decode cJx4a65c_add_9ea2d 20 = .ok (.invokevirtual 131, 3) := by decide +kernel
theorem dJx4a65c_add_9ea2d_23 : decode cJx4a65c_add_9ea2d 23 = .ok (.iconst 1, 1) := by decide +kernel
theorem dJx4a65c_add_9ea2d_24 : decode cJx4a65c_add_9ea2d 24 = .ok (.ireturn, 1) := by decide +kernel
theorem dJ7_fill_031fb_0 : decode cJ7_fill_031fb 0 = .ok (.iconst 0, 1) := by decide +kernel
theorem dJ7_fill_031fb_1 : decode cJ7_fill_031fb 1 = .ok (.istore_n 2, 1) := by decide +kernel
theorem dJ7_fill_031fb_2 : decode cJ7_fill_031fb 2 = .ok (.aload_n 0, 1) := by decide +kernel
theorem dJ7_fill_031fb_3 : decode cJ7_fill_031fb 3 = .ok (.arraylength, 1) := by decide +kernel
theorem dJ7_fill_031fb_4 : decode cJ7_fill_031fb 4 = .ok (.istore_n 3, 1) := by decide +kernel
theorem dJ7_fill_031fb_5 : decode cJ7_fill_031fb 5 = .ok (.iload_n 2, 1) := by decide +kernel
theorem dJ7_fill_031fb_6 : decode cJ7_fill_031fb 6 = .ok (.iload_n 3, 1) := by decide +kernel
theorem dJ7_fill_031fb_7 : decode cJ7_fill_031fb 7 = .ok (.if_icmp .ge 13, 3) := by decide +kernel
theorem dJ7_fill_031fb_10 : decode cJ7_fill_031fb 10 = .ok (.aload_n 0, 1) := by decide +kernel
theorem dJ7_fill_031fb_11 : decode cJ7_fill_031fb 11 = .ok (.iload_n 2, 1) := by decide +kernel
