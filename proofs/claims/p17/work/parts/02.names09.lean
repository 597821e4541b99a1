set_option maxRecDepth 20000 in
theorem gX6_wind_X6_meets : GoodIn wsX6_wind (wsV RX6 98 RX6 yX6_meets wsX6_meets) := goodIn_app (goodIn_of _ (by decide +kernel)) ggX6_wind_X6_meets
theorem dX6_wind_0 : decode cX6_wind 0 = .ok (.aload_n 0, 1) := by decide +kernel
theorem dX6_wind_1 : decode cX6_wind 1 = .ok (.iload_n 1, 1) := by decide +kernel
theorem dX6_wind_2 : decode cX6_wind 2 = .ok (.invokevirtual 102, 3) := by decide +kernel
theorem dX6_wind_5 : decode cX6_wind 5 = .ok (.istore 4, 2) := by decide +kernel
theorem dX6_wind_7 : decode cX6_wind 7 = .ok (.iload 4, 2) := by decide +kernel
theorem dX6_wind_9 : decode cX6_wind 9 = .ok (.ifCond .ge 6, 3) := by decide +kernel
theorem dX6_wind_12 : decode cX6_wind 12 = .ok (.iload 4, 2) := by decide +kernel
theorem dX6_wind_14 : decode cX6_wind 14 = .ok (.ireturn, 1) := by decide +kernel
theorem dX6_wind_15 : decode cX6_wind 15 = .ok (.iload_n 2, 1) := by decide +kernel
theorem dX6_wind_16 : decode cX6_wind 16 = .ok (.invokestatic 91, 3) := by decide +kernel
theorem dX6_wind_19 : decode cX6_wind 19 = .ok (.ifCond .ne 9, 3) := by decide +kernel
theorem dX6_wind_22 : decode cX6_wind 22 = .ok (.aload_n 0, 1) := by decide +kernel
theorem dX6_wind_23 : decode cX6_wind 23 = .ok (.iconst 2, 1) := by decide +kernel
theorem dX6_wind_24 : decode cX6_wind 24 = .ok (.invokevirtual 98, 3) := by decide +kernel
theorem dX6_wind_27 : decode cX6_wind 27 = .ok (.ireturn, 1) := by decide +kernel
theorem dX6_wind_28 : decode cX6_wind 28 = .ok (.aload_n 0, 1) := by decide +kernel
theorem dX6_wind_29 : decode cX6_wind 29 = .ok (.getfield 20, 3) := by decide +kernel
theorem dX6_wind_32 : decode cX6_wind 32 = .ok (.sipush 160, 3) := by decide +kernel
theorem dX6_wind_35 : decode cX6_wind 35 = .ok (.iload_n 1, 1) := by decide +kernel
theorem dX6_wind_36 : decode cX6_wind 36 = .ok (.imul, 1) := by decide +kernel
theorem dX6_wind_37 : decode cX6_wind 37 = .ok (.iload_n 2, 1) := by decide +kernel
theorem dX6_wind_38 : decode cX6_wind 38 = .ok (.iadd, 1) := by decide +kernel
theorem dX6_wind_39 : decode cX6_wind 39 = .ok (.iaload, 1) := by decide +kernel
theorem dX6_wind_40 : decode cX6_wind 40 = .ok (.istore 5, 2) := by decide +kernel
theorem dX6_wind_42 : decode cX6_wind 42 = .ok (.aload_n 0, 1) := by decide +kernel
theorem dX6_wind_43 : decode cX6_wind 43 = .ok (.getfield 20, 3) := by decide +kernel
theorem dX6_wind_46 : decode cX6_wind 46 = .ok (.sipush 160, 3) := by decide +kernel
theorem dX6_wind_49 : decode cX6_wind 49 = .ok (.iload_n 1, 1) := by decide +kernel
theorem dX6_wind_50 : decode cX6_wind 50 = .ok (.imul, 1) := by decide +kernel
theorem dX6_wind_51 : decode cX6_wind 51 = .ok (.iload_n 2, 1) := by decide +kernel
theorem dX6_wind_52 : decode cX6_wind 52 = .ok (.iadd, 1) := by decide +kernel
theorem dX6_wind_53 : decode cX6_wind 53 = .ok (.iload_n 3, 1) := by decide +kernel
theorem dX6_wind_54 : decode cX6_wind 54 = .ok (.i2b, 1) := by decide +kernel
theorem dX6_wind_55 : decode cX6_wind 55 = .ok (.iastore, 1) := by decide +kernel
theorem dX6_wind_56 : decode cX6_wind 56 = .ok (.iload 5, 2) := by decide +kernel
theorem dX6_wind_58 : decode cX6_wind 58 = .ok (.sipush 1000, 3) := by decide +kernel
theorem dX6_wind_61 : decode cX6_wind 61 = .ok (.iadd, 1) := by decide +kernel
theorem dX6_wind_62 : decode cX6_wind 62 = .ok (.ireturn, 1) := by decide +kernel
set_option maxRecDepth 20000 in
theorem ggX6_tear_X6_looked : GoodIn wsX6_tear wsX6_looked := goodIn_r _ [6, 1, 7, 8, 5, 9, 10, 11, 12, 13, 14, 15, 16, 17, 18, 19, 20, 21, 22, 23, 24, 25, 26, 27, 28, 29, 30, 31, 32, 33, 34, 35, 36, 37, 38, 39, 40, 41, 42, 43, 44, 45, 46, 47, 48, 49] rfl (by decide +kernel)
set_option maxRecDepth 20000 in
theorem gX6_tear_X6_looked : GoodIn wsX6_tear (wsV RX6 102 RX6 yX6_looked wsX6_looked) := goodIn_app (goodIn_of _ (by decide +kernel)) ggX6_tear_X6_looked
theorem dX6_tear_0 : decode cX6_tear 0 = .ok (.aload_n 0, 1) := by decide +kernel
theorem dX6_tear_1 : decode cX6_tear 1 = .ok (.iload_n 1, 1) := by decide +kernel
theorem dX6_tear_2 : decode cX6_tear 2 = .ok (.invokevirtual 102, 3) := by decide +kernel
theorem dX6_tear_5 : decode cX6_tear 5 = .ok (.istore_n 2, 1) := by decide +kernel
theorem dX6_tear_6 : decode cX6_tear 6 = .ok (.iload_n 2, 1) := by decide +kernel
theorem dX6_tear_7 : decode cX6_tear 7 = .ok (.ifCond .ge 5, 3) := by decide +kernel
theorem dX6_tear_10 : decode cX6_tear 10 = .ok (.iload_n 2, 1) := by decide +kernel
theorem dX6_tear_11 : decode cX6_tear 11 = .ok (.ireturn, 1) := by decide +kernel
theorem dX6_tear_12 : decode cX6_tear 12 = .ok (.aload_n 0, 1) := by decide +kernel
theorem dX6_tear_13 : decode cX6_tear 13 = .ok (.getfield 17, 3) := by decide +kernel
theorem dX6_tear_16 : decode cX6_tear 16 = .ok (.iload_n 1, 1) := by decide +kernel
theorem dX6_tear_17 : decode cX6_tear 17 = .ok (.iconst 0, 1) := by decide +kernel
theorem dX6_tear_18 : decode cX6_tear 18 = .ok (.bastore, 1) := by decide +kernel
theorem dX6_tear_19 : decode cX6_tear 19 = .ok (.iconst 1, 1) := by decide +kernel
theorem dX6_tear_20 : decode cX6_tear 20 = .ok (.ireturn, 1) := by decide +kernel
set_option maxRecDepth 20000 in
theorem ggX6_copy_X6_isMonth : GoodIn wsX6_copy wsX6_isMonth := goodIn_r _ [8, 9, 10, 7, 11] rfl (by decide +kernel)
set_option maxRecDepth 20000 in
theorem gX6_copy_X6_isMonth : GoodIn wsX6_copy (va_wsS RX6 95 yX6_isMonth wsX6_isMonth) := goodIn_app (goodIn_of _ (by decide +kernel)) ggX6_copy_X6_isMonth
set_option maxRecDepth 20000 in
theorem ggX6_copy_X6_meets : GoodIn wsX6_copy wsX6_meets := goodIn_r _ [15, 16, 17, 18, 19, 20, 21, 22, 23, 24, 25, 26, 27, 28, 29, 30, 31, 32, 33, 34, 35, 36, 37, 38, 39, 40, 41, 42, 43, 44, 45, 46, 47, 48] rfl (by decide +kernel)
set_option maxRecDepth 20000 in
theorem gX6_copy_X6_meets : GoodIn wsX6_copy (wsV RX6 98 RX6 yX6_meets wsX6_meets) := goodIn_app (goodIn_of _ (by decide +kernel)) ggX6_copy_X6_meets
theorem dX6_copy_0 : decode cX6_copy 0 = .ok (.iload_n 1, 1) := by decide +kernel
theorem dX6_copy_1 : decode cX6_copy 1 = .ok (.invokestatic 95, 3) := by decide +kernel
theorem dX6_copy_4 : decode cX6_copy 4 = .ok (.ifCond .eq 10, 3) := by decide +kernel
theorem dX6_copy_7 : decode cX6_copy 7 = .ok (.iload_n 3, 1) := by decide +kernel
theorem dX6_copy_8 : decode cX6_copy 8 = .ok (.invokestatic 95, 3) := by decide +kernel
theorem dX6_copy_11 : decode cX6_copy 11 = .ok (.ifCond .ne 5, 3) := by decide +kernel
theorem dX6_copy_14 : decode cX6_copy 14 = .ok (.iconst (-1), 1) := by decide +kernel
theorem dX6_copy_15 : decode cX6_copy 15 = .ok (.ireturn, 1) := by decide +kernel
theorem dX6_copy_16 : decode cX6_copy 16 = .ok (.iload 5, 2) := by decide +kernel
theorem dX6_copy_18 : decode cX6_copy 18 = .ok (.ifCond .ge 9, 3) := by decide +kernel
theorem dX6_copy_21 : decode cX6_copy 21 = .ok (.aload_n 0, 1) := by decide +kernel
theorem dX6_copy_22 : decode cX6_copy 22 = .ok (.iconst 5, 1) := by decide +kernel
theorem dX6_copy_23 : decode cX6_copy 23 = .ok (.invokevirtual 98, 3) := by decide +kernel
theorem dX6_copy_26 : decode cX6_copy 26 = .ok (.ireturn, 1) := by decide +kernel
theorem dX6_copy_27 : decode cX6_copy 27 = .ok (.aload_n 0, 1) := by decide +kernel
theorem dX6_copy_28 : decode cX6_copy 28 = .ok (.getfield 17, 3) := by decide +kernel
theorem dX6_copy_31 : decode cX6_copy 31 = .ok (.iload_n 1, 1) := by decide +kernel
theorem dX6_copy_32 : decode cX6_copy 32 = .ok (.baload, 1) := by decide +kernel
theorem dX6_copy_33 : decode cX6_copy 33 = .ok (.ifCond .eq 12, 3) := by decide +kernel
theorem dX6_copy_36 : decode cX6_copy 36 = .ok (.aload_n 0, 1) := by decide +kernel
theorem dX6_copy_37 : decode cX6_copy 37 = .ok (.getfield 17, 3) := by decide +kernel
theorem dX6_copy_40 : decode cX6_copy 40 = .ok (.iload_n 3, 1) := by decide +kernel
theorem dX6_copy_41 : decode cX6_copy 41 = .ok (.baload, 1) := by decide +kernel
theorem dX6_copy_42 : decode cX6_copy 42 = .ok (.ifCond .ne 9, 3) := by decide +kernel
theorem dX6_copy_45 : decode cX6_copy 45 = .ok (.aload_n 0, 1) := by decide +kernel
theorem dX6_copy_46 : decode cX6_copy 46 = .ok (.iconst 1, 1) := by decide +kernel
theorem dX6_copy_47 : decode cX6_copy 47 = .ok (.invokevirtual 98, 3) := by decide +kernel
theorem dX6_copy_50 : decode cX6_copy 50 = .ok (.ireturn, 1) := by decide +kernel
theorem dX6_copy_51 : decode cX6_copy 51 = .ok (.iload_n 2, 1) := by decide +kernel
theorem dX6_copy_52 : decode cX6_copy 52 = .ok (.ifCond .lt 35, 3) := by decide +kernel
theorem dX6_copy_55 : decode cX6_copy 55 = .ok (.iload 4, 2) := by decide +kernel
theorem dX6_copy_57 : decode cX6_copy 57 = .ok (.ifCond .lt 30, 3) := by decide +kernel
theorem dX6_copy_60 : decode cX6_copy 60 = .ok (.iload_n 2, 1) := by decide +kernel
theorem dX6_copy_61 : decode cX6_copy 61 = .ok (.i2l, 1) := by decide +kernel
theorem dX6_copy_62 : decode cX6_copy 62 = .ok (.iload 5, 2) := by decide +kernel
theorem dX6_copy_64 : decode cX6_copy 64 = .ok (.i2l, 1) := by decide +kernel
theorem dX6_copy_65 : decode cX6_copy 65 = .ok (.ladd, 1) := by decide +kernel
theorem dX6_copy_66 : decode cX6_copy 66 = .ok (.ldc2_w 105, 3) := by decide +kernel
theorem dX6_copy_69 : decode cX6_copy 69 = .ok (.lcmp, 1) := by decide +kernel
theorem dX6_copy_70 : decode cX6_copy 70 = .ok (.ifCond .gt 17, 3) := by decide +kernel
theorem dX6_copy_73 : decode cX6_copy 73 = .ok (.iload 4, 2) := by decide +kernel
theorem dX6_copy_75 : decode cX6_copy 75 = .ok (.i2l, 1) := by decide +kernel
theorem dX6_copy_76 : decode cX6_copy 76 = .ok (.iload 5, 2) := by decide +kernel
theorem dX6_copy_78 : decode cX6_copy 78 = .ok (.i2l, 1) := by decide +kernel
theorem dX6_copy_79 : decode cX6_copy 79 = .ok (.ladd, 1) := by decide +kernel
theorem dX6_copy_80 : decode cX6_copy 80 = .ok (.ldc2_w 105, 3) := by decide +kernel
theorem dX6_copy_83 : decode cX6_copy 83 = .ok (.lcmp, 1) := by decide +kernel
theorem dX6_copy_84 : decode cX6_copy 84 = .ok (.ifCond .le 9, 3) := by decide +kernel
theorem dX6_copy_87 : decode cX6_copy 87 = .ok (.aload_n 0, 1) := by decide +kernel
theorem dX6_copy_88 : decode cX6_copy 88 = .ok (.iconst 2, 1) := by decide +kernel
theorem dX6_copy_89 : decode cX6_copy 89 = .ok (.invokevirtual 98, 3) := by decide +kernel
theorem dX6_copy_92 : decode cX6_copy 92 = .ok (.ireturn, 1) := by decide +kernel
theorem dX6_copy_93 : decode cX6_copy 93 = .ok (.iconst 0, 1) := by decide +kernel
theorem dX6_copy_94 : decode cX6_copy 94 = .ok (.istore 6, 2) := by decide +kernel
theorem dX6_copy_96 : decode cX6_copy 96 = .ok (.iload 6, 2) := by decide +kernel
theorem dX6_copy_98 : decode cX6_copy 98 = .ok (.iload 5, 2) := by decide +kernel
theorem dX6_copy_100 : decode cX6_copy 100 = .ok (.if_icmp .ge 31, 3) := by decide +kernel
theorem dX6_copy_103 : decode cX6_copy 103 = .ok (.aload_n 0, 1) := by decide +kernel
theorem dX6_copy_104 : decode cX6_copy 104 = .ok (.getfield 23, 3) := by decide +kernel
theorem dX6_copy_107 : decode cX6_copy 107 = .ok (.iload 6, 2) := by decide +kernel
theorem dX6_copy_109 : decode cX6_copy 109 = .ok (.aload_n 0, 1) := by decide +kernel
theorem dX6_copy_110 : decode cX6_copy 110 = .ok (.getfield 20, 3) := by decide +kernel
theorem dX6_copy_113 : decode cX6_copy 113 = .ok (.sipush 160, 3) := by decide +kernel
theorem dX6_copy_116 : decode cX6_copy 116 = .ok (.iload_n 1, 1) := by decide +kernel
theorem dX6_copy_117 : decode cX6_copy 117 = .ok (.imul, 1) := by decide +kernel
theorem dX6_copy_118 : decode cX6_copy 118 = .ok (.iload_n 2, 1) := by decide +kernel
theorem dX6_copy_119 : decode cX6_copy 119 = .ok (.iadd, 1) := by decide +kernel
theorem dX6_copy_120 : decode cX6_copy 120 = .ok (.iload 6, 2) := by decide +kernel
theorem dX6_copy_122 : decode cX6_copy 122 = .ok (.iadd, 1) := by decide +kernel
theorem dX6_copy_123 : decode cX6_copy 123 = .ok (.iaload, 1) := by decide +kernel
theorem dX6_copy_124 : decode cX6_copy 124 = .ok (.iastore, 1) := by decide +kernel
theorem dX6_copy_125 : decode cX6_copy 125 = .ok (.iinc 6 1, 3) := by decide +kernel
theorem dX6_copy_128 : decode cX6_copy 128 = .ok (.goto (-32), 3) := by decide +kernel
theorem dX6_copy_131 : decode cX6_copy 131 = .ok (.iconst 0, 1) := by decide +kernel
theorem dX6_copy_132 : decode cX6_copy 132 = .ok (.istore 6, 2) := by decide +kernel
theorem dX6_copy_134 : decode cX6_copy 134 = .ok (.iload 6, 2) := by decide +kernel
theorem dX6_copy_136 : decode cX6_copy 136 = .ok (.iload 5, 2) := by decide +kernel
theorem dX6_copy_138 : decode cX6_copy 138 = .ok (.if_icmp .ge 32, 3) := by decide +kernel
theorem dX6_copy_141 : decode cX6_copy 141 = .ok (.aload_n 0, 1) := by decide +kernel
theorem dX6_copy_142 : decode cX6_copy 142 = .ok (.getfield 20, 3) := by decide +kernel
theorem dX6_copy_145 : decode cX6_copy 145 = .ok (.sipush 160, 3) := by decide +kernel
theorem dX6_copy_148 : decode cX6_copy 148 = .ok (.iload_n 3, 1) := by decide +kernel
theorem dX6_copy_149 : decode cX6_copy 149 = .ok (.imul, 1) := by decide +kernel
theorem dX6_copy_150 : decode cX6_copy 150 = .ok (.iload 4, 2) := by decide +kernel
theorem dX6_copy_152 : decode cX6_copy 152 = .ok (.iadd, 1) := by decide +kernel
theorem dX6_copy_153 : decode cX6_copy 153 = .ok (.iload 6, 2) := by decide +kernel
theorem dX6_copy_155 : decode cX6_copy 155 = .ok (.iadd, 1) := by decide +kernel
theorem dX6_copy_156 : decode cX6_copy 156 = .ok (.aload_n 0, 1) := by decide +kernel
theorem dX6_copy_157 : decode cX6_copy 157 = .ok (.getfield 23, 3) := by decide +kernel
theorem dX6_copy_160 : decode cX6_copy 160 = .ok (.iload 6, 2) := by decide +kernel
theorem dX6_copy_162 : decode cX6_copy 162 = .ok (.iaload, 1) := by decide +kernel
theorem dX6_copy_163 : decode cX6_copy 163 = .ok (.iastore, 1) := by decide +kernel
theorem dX6_copy_164 : decode cX6_copy 164 = .ok (.iinc 6 1, 3) := by decide +kernel
theorem dX6_copy_167 : decode cX6_copy 167 = .ok (.goto (-33), 3) := by decide +kernel
theorem dX6_copy_170 : decode cX6_copy 170 = .ok (.iconst 1, 1) := by decide +kernel
theorem dX6_copy_171 : decode cX6_copy 171 = .ok (.ireturn, 1) := by decide +kernel
set_option maxRecDepth 20000 in
theorem ggX6_strength_X6_in : GoodIn wsX6_strength wsX6_in := goodIn_r _ [4] rfl (by decide +kernel)
set_option maxRecDepth 20000 in
theorem gX6_strength_X6_in : GoodIn wsX6_strength (va_wsS RX6 87 yX6_in wsX6_in) := goodIn_app (goodIn_of _ (by decide +kernel)) ggX6_strength_X6_in
theorem dX6_strength_0 : decode cX6_strength 0 = .ok (.iload_n 0, 1) := by decide +kernel
theorem dX6_strength_1 : decode cX6_strength 1 = .ok (.iconst 0, 1) := by decide +kernel
theorem dX6_strength_2 : decode cX6_strength 2 = .ok (.bipush 79, 2) := by decide +kernel
theorem dX6_strength_4 : decode cX6_strength 4 = .ok (.invokestatic 87, 3) := by decide +kernel
theorem dX6_strength_7 : decode cX6_strength 7 = .ok (.ifCond .eq 10, 3) := by decide +kernel
theorem dX6_strength_10 : decode cX6_strength 10 = .ok (.iload_n 0, 1) := by decide +kernel
theorem dX6_strength_11 : decode cX6_strength 11 = .ok (.bipush 10, 2) := by decide +kernel
theorem dX6_strength_13 : decode cX6_strength 13 = .ok (.irem, 1) := by decide +kernel
theorem dX6_strength_14 : decode cX6_strength 14 = .ok (.goto 4, 3) := by decide +kernel
theorem dX6_strength_17 : decode cX6_strength 17 = .ok (.iconst 0, 1) := by decide +kernel
theorem dX6_strength_18 : decode cX6_strength 18 = .ok (.ireturn, 1) := by decide +kernel
set_option maxRecDepth 20000 in
theorem ggX6_mean_X6_looked : GoodIn wsX6_mean wsX6_looked := goodIn_r _ [6, 7, 8, 9, 5, 10, 11, 12, 13, 14, 15, 16, 17, 18, 19, 23, 24, 25, 26, 27, 28, 29, 30, 31, 32, 33, 34, 35, 36, 37, 38, 39, 40, 41, 42, 43, 44, 45, 46, 47, 48, 49, 50, 51, 52, 53] rfl (by decide +kernel)
set_option maxRecDepth 20000 in
theorem gX6_mean_X6_looked : GoodIn wsX6_mean (wsV RX6 102 RX6 yX6_looked wsX6_looked) := goodIn_app (goodIn_of _ (by decide +kernel)) ggX6_mean_X6_looked
set_option maxRecDepth 20000 in
theorem ggX6_mean_X6_strength : GoodIn wsX6_mean wsX6_strength := goodIn_r _ [22, 11, 12, 5, 13] rfl (by decide +kernel)
set_option maxRecDepth 20000 in
theorem gX6_mean_X6_strength : GoodIn wsX6_mean (va_wsS RX6 107 yX6_strength wsX6_strength) := goodIn_app (goodIn_of _ (by decide +kernel)) ggX6_mean_X6_strength
theorem dX6_mean_0 : decode cX6_mean 0 = .ok (.aload_n 0, 1) := by decide +kernel
theorem dX6_mean_1 : decode cX6_mean 1 = .ok (.iload_n 1, 1) := by decide +kernel
theorem dX6_mean_2 : decode cX6_mean 2 = .ok (.invokevirtual 102, 3) := by decide +kernel
theorem dX6_mean_5 : decode cX6_mean 5 = .ok (.istore_n 2, 1) := by decide +kernel
theorem dX6_mean_6 : decode cX6_mean 6 = .ok (.iload_n 2, 1) := by decide +kernel
theorem dX6_mean_7 : decode cX6_mean 7 = .ok (.ifCond .ge 5, 3) := by decide +kernel
theorem dX6_mean_10 : decode cX6_mean 10 = .ok (.iload_n 2, 1) := by decide +kernel
theorem dX6_mean_11 : decode cX6_mean 11 = .ok (.ireturn, 1) := by decide +kernel
theorem dX6_mean_12 : decode cX6_mean 12 = .ok (.iconst 0, 1) := by decide +kernel
theorem dX6_mean_13 : decode cX6_mean 13 = .ok (.istore_n 3, 1) := by decide +kernel
theorem dX6_mean_14 : decode cX6_mean 14 = .ok (.iconst 0, 1) := by decide +kernel
theorem dX6_mean_15 : decode cX6_mean 15 = .ok (.istore 4, 2) := by decide +kernel
theorem dX6_mean_17 : decode cX6_mean 17 = .ok (.iload 4, 2) := by decide +kernel
theorem dX6_mean_19 : decode cX6_mean 19 = .ok (.sipush 160, 3) := by decide +kernel
theorem dX6_mean_22 : decode cX6_mean 22 = .ok (.if_icmp .ge 28, 3) := by decide +kernel
theorem dX6_mean_25 : decode cX6_mean 25 = .ok (.iload_n 3, 1) := by decide +kernel
theorem dX6_mean_26 : decode cX6_mean 26 = .ok (.aload_n 0, 1) := by decide +kernel
theorem dX6_mean_27 : decode cX6_mean 27 = .ok (.getfield 20, 3) := by decide +kernel
theorem dX6_mean_30 : decode cX6_mean 30 = .ok (.sipush 160, 3) := by decide +kernel
theorem dX6_mean_33 : decode cX6_mean 33 = .ok (.iload_n 1, 1) := by decide +kernel
theorem dX6_mean_34 : decode cX6_mean 34 = .ok (.imul, 1) := by decide +kernel
theorem dX6_mean_35 : decode cX6_mean 35 = .ok (.iload 4, 2) := by decide +kernel
theorem dX6_mean_37 : decode cX6_mean 37 = .ok (.iadd, 1) := by decide +kernel
theorem dX6_mean_38 : decode cX6_mean 38 = .ok (.iaload, 1) := by decide +kernel
theorem dX6_mean_39 : decode cX6_mean 39 = .ok (.invokestatic 107, 3) := by decide +kernel
theorem dX6_mean_42 : decode cX6_mean 42 = .ok (.iadd, 1) := by decide +kernel
theorem dX6_mean_43 : decode cX6_mean 43 = .ok (.istore_n 3, 1) := by decide +kernel
theorem dX6_mean_44 : decode cX6_mean 44 = .ok (.iinc 4 1, 3) := by decide +kernel
theorem dX6_mean_47 : decode cX6_mean 47 = .ok (.goto (-30), 3) := by decide +kernel
theorem dX6_mean_50 : decode cX6_mean 50 = .ok (.iload_n 3, 1) := by decide +kernel
theorem dX6_mean_51 : decode cX6_mean 51 = .ok (.sipush 160, 3) := by decide +kernel
theorem dX6_mean_54 : decode cX6_mean 54 = .ok (.idiv, 1) := by decide +kernel
theorem dX6_mean_55 : decode cX6_mean 55 = .ok (.ireturn, 1) := by decide +kernel
set_option maxRecDepth 20000 in
theorem ggX6_windAt_X6_in : GoodIn wsX6_windAt wsX6_in := goodIn_r _ [6] rfl (by decide +kernel)
set_option maxRecDepth 20000 in
theorem gX6_windAt_X6_in : GoodIn wsX6_windAt (va_wsS RX6 87 yX6_in wsX6_in) := goodIn_app (goodIn_of _ (by decide +kernel)) ggX6_windAt_X6_in
theorem dX6_windAt_0 : decode cX6_windAt 0 = .ok (.iload_n 2, 1) := by decide +kernel
theorem dX6_windAt_1 : decode cX6_windAt 1 = .ok (.sipush 720, 3) := by decide +kernel
theorem dX6_windAt_4 : decode cX6_windAt 4 = .ok (.idiv, 1) := by decide +kernel
theorem dX6_windAt_5 : decode cX6_windAt 5 = .ok (.bipush 12, 2) := by decide +kernel
theorem dX6_windAt_7 : decode cX6_windAt 7 = .ok (.irem, 1) := by decide +kernel
theorem dX6_windAt_8 : decode cX6_windAt 8 = .ok (.istore_n 3, 1) := by decide +kernel
theorem dX6_windAt_9 : decode cX6_windAt 9 = .ok (.aload_n 0, 1) := by decide +kernel
theorem dX6_windAt_10 : decode cX6_windAt 10 = .ok (.getfield 17, 3) := by decide +kernel
theorem dX6_windAt_13 : decode cX6_windAt 13 = .ok (.iload_n 3, 1) := by decide +kernel
theorem dX6_windAt_14 : decode cX6_windAt 14 = .ok (.baload, 1) := by decide +kernel
theorem dX6_windAt_15 : decode cX6_windAt 15 = .ok (.ifCond .eq 18, 3) := by decide +kernel
theorem dX6_windAt_18 : decode cX6_windAt 18 = .ok (.aload_n 0, 1) := by decide +kernel
theorem dX6_windAt_19 : decode cX6_windAt 19 = .ok (.getfield 20, 3) := by decide +kernel
theorem dX6_windAt_22 : decode cX6_windAt 22 = .ok (.sipush 160, 3) := by decide +kernel
theorem dX6_windAt_25 : decode cX6_windAt 25 = .ok (.iload_n 3, 1) := by decide +kernel
theorem dX6_windAt_26 : decode cX6_windAt 26 = .ok (.imul, 1) := by decide +kernel
theorem dX6_windAt_27 : decode cX6_windAt 27 = .ok (.iload_n 1, 1) := by decide +kernel
theorem dX6_windAt_28 : decode cX6_windAt 28 = .ok (.iadd, 1) := by decide +kernel
theorem dX6_windAt_29 : decode cX6_windAt 29 = .ok (.iaload, 1) := by decide +kernel
theorem dX6_windAt_30 : decode cX6_windAt 30 = .ok (.goto 4, 3) := by decide +kernel
theorem dX6_windAt_33 : decode cX6_windAt 33 = .ok (.iconst 0, 1) := by decide +kernel
theorem dX6_windAt_34 : decode cX6_windAt 34 = .ok (.istore 4, 2) := by decide +kernel
theorem dX6_windAt_36 : decode cX6_windAt 36 = .ok (.iload 4, 2) := by decide +kernel
theorem dX6_windAt_38 : decode cX6_windAt 38 = .ok (.iconst 0, 1) := by decide +kernel
theorem dX6_windAt_39 : decode cX6_windAt 39 = .ok (.bipush 79, 2) := by decide +kernel
theorem dX6_windAt_41 : decode cX6_windAt 41 = .ok (.invokestatic 87, 3) := by decide +kernel
theorem dX6_windAt_44 : decode cX6_windAt 44 = .ok (.ifCond .eq 8, 3) := by decide +kernel
theorem dX6_windAt_47 : decode cX6_windAt 47 = .ok (.iload 4, 2) := by decide +kernel
theorem dX6_windAt_49 : decode cX6_windAt 49 = .ok (.goto 4, 3) := by decide +kernel
theorem dX6_windAt_52 : decode cX6_windAt 52 = .ok (.iconst 0, 1) := by decide +kernel
theorem dX6_windAt_53 : decode cX6_windAt 53 = .ok (.ireturn, 1) := by decide +kernel
set_option maxRecDepth 20000 in
theorem ggX6_nextCell_X6_in : GoodIn wsX6_nextCell wsX6_in := goodIn_r _ [5] rfl (by decide +kernel)
set_option maxRecDepth 20000 in
theorem gX6_nextCell_X6_in : GoodIn wsX6_nextCell (va_wsS RX6 87 yX6_in wsX6_in) := goodIn_app (goodIn_of _ (by decide +kernel)) ggX6_nextCell_X6_in
theorem dX6_nextCell_0 : decode cX6_nextCell 0 = .ok (.iload_n 1, 1) := by decide +kernel
theorem dX6_nextCell_1 : decode cX6_nextCell 1 = .ok (.bipush 16, 2) := by decide +kernel
theorem dX6_nextCell_3 : decode cX6_nextCell 3 = .ok (.irem, 1) := by decide +kernel
theorem dX6_nextCell_4 : decode cX6_nextCell 4 = .ok (.iload_n 2, 1) := by decide +kernel
theorem dX6_nextCell_5 : decode cX6_nextCell 5 = .ok (.iconst 1, 1) := by decide +kernel
theorem dX6_nextCell_6 : decode cX6_nextCell 6 = .ok (.iconst 3, 1) := by decide +kernel
theorem dX6_nextCell_7 : decode cX6_nextCell 7 = .ok (.invokestatic 87, 3) := by decide +kernel
theorem dX6_nextCell_10 : decode cX6_nextCell 10 = .ok (.ifCond .eq 7, 3) := by decide +kernel
theorem dX6_nextCell_13 : decode cX6_nextCell 13 = .ok (.iconst 1, 1) := by decide +kernel
theorem dX6_nextCell_14 : decode cX6_nextCell 14 = .ok (.goto 18, 3) := by decide +kernel
theorem dX6_nextCell_17 : decode cX6_nextCell 17 = .ok (.iload_n 2, 1) := by decide +kernel
theorem dX6_nextCell_18 : decode cX6_nextCell 18 = .ok (.iconst 5, 1) := by decide +kernel
theorem dX6_nextCell_19 : decode cX6_nextCell 19 = .ok (.bipush 7, 2) := by decide +kernel
theorem dX6_nextCell_21 : decode cX6_nextCell 21 = .ok (.invokestatic 87, 3) := by decide +kernel
theorem dX6_nextCell_24 : decode cX6_nextCell 24 = .ok (.ifCond .eq 7, 3) := by decide +kernel
theorem dX6_nextCell_27 : decode cX6_nextCell 27 = .ok (.iconst (-1), 1) := by decide +kernel
theorem dX6_nextCell_28 : decode cX6_nextCell 28 = .ok (.goto 4, 3) := by decide +kernel
theorem dX6_nextCell_31 : decode cX6_nextCell 31 = .ok (.iconst 0, 1) := by decide +kernel
theorem dX6_nextCell_32 : decode cX6_nextCell 32 = .ok (.iadd, 1) := by decide +kernel
theorem dX6_nextCell_33 : decode cX6_nextCell 33 = .ok (.istore_n 3, 1) := by decide +kernel
theorem dX6_nextCell_34 : decode cX6_nextCell 34 = .ok (.iload_n 1, 1) := by decide +kernel
theorem dX6_nextCell_35 : decode cX6_nextCell 35 = .ok (.bipush 16, 2) := by decide +kernel
theorem dX6_nextCell_37 : decode cX6_nextCell 37 = .ok (.idiv, 1) := by decide +kernel
theorem dX6_nextCell_38 : decode cX6_nextCell 38 = .ok (.iload_n 2, 1) := by decide +kernel
theorem dX6_nextCell_39 : decode cX6_nextCell 39 = .ok (.iconst 3, 1) := by decide +kernel
theorem dX6_nextCell_40 : decode cX6_nextCell 40 = .ok (.iconst 5, 1) := by decide +kernel
theorem dX6_nextCell_41 : decode cX6_nextCell 41 = .ok (.invokestatic 87, 3) := by decide +kernel
theorem dX6_nextCell_44 : decode cX6_nextCell 44 = .ok (.ifCond .eq 7, 3) := by decide +kernel
theorem dX6_nextCell_47 : decode cX6_nextCell 47 = .ok (.iconst 1, 1) := by decide +kernel
theorem dX6_nextCell_48 : decode cX6_nextCell 48 = .ok (.goto 23, 3) := by decide +kernel
theorem dX6_nextCell_51 : decode cX6_nextCell 51 = .ok (.iload_n 2, 1) := by decide +kernel
theorem dX6_nextCell_52 : decode cX6_nextCell 52 = .ok (.ifCond .eq 14, 3) := by decide +kernel
theorem dX6_nextCell_55 : decode cX6_nextCell 55 = .ok (.iload_n 2, 1) := by decide +kernel
theorem dX6_nextCell_56 : decode cX6_nextCell 56 = .ok (.iconst 1, 1) := by decide +kernel
theorem dX6_nextCell_57 : decode cX6_nextCell 57 = .ok (.if_icmp .eq 9, 3) := by decide +kernel
theorem dX6_nextCell_60 : decode cX6_nextCell 60 = .ok (.iload_n 2, 1) := by decide +kernel
theorem dX6_nextCell_61 : decode cX6_nextCell 61 = .ok (.bipush 7, 2) := by decide +kernel
theorem dX6_nextCell_63 : decode cX6_nextCell 63 = .ok (.if_icmp .ne 7, 3) := by decide +kernel
theorem dX6_nextCell_66 : decode cX6_nextCell 66 = .ok (.iconst (-1), 1) := by decide +kernel
theorem dX6_nextCell_67 : decode cX6_nextCell 67 = .ok (.goto 4, 3) := by decide +kernel
theorem dX6_nextCell_70 : decode cX6_nextCell 70 = .ok (.iconst 0, 1) := by decide +kernel
theorem dX6_nextCell_71 : decode cX6_nextCell 71 = .ok (.iadd, 1) := by decide +kernel
theorem dX6_nextCell_72 : decode cX6_nextCell 72 = .ok (.istore 4, 2) := by decide +kernel
theorem dX6_nextCell_74 : decode cX6_nextCell 74 = .ok (.iload_n 3, 1) := by decide +kernel
theorem dX6_nextCell_75 : decode cX6_nextCell 75 = .ok (.iconst 0, 1) := by decide +kernel
theorem dX6_nextCell_76 : decode cX6_nextCell 76 = .ok (.bipush 15, 2) := by decide +kernel
theorem dX6_nextCell_78 : decode cX6_nextCell 78 = .ok (.invokestatic 87, 3) := by decide +kernel
theorem dX6_nextCell_81 : decode cX6_nextCell 81 = .ok (.ifCond .eq 29, 3) := by decide +kernel
theorem dX6_nextCell_84 : decode cX6_nextCell 84 = .ok (.iload 4, 2) := by decide +kernel
theorem dX6_nextCell_86 : decode cX6_nextCell 86 = .ok (.iconst 0, 1) := by decide +kernel
theorem dX6_nextCell_87 : decode cX6_nextCell 87 = .ok (.bipush 9, 2) := by decide +kernel
theorem dX6_nextCell_89 : decode cX6_nextCell 89 = .ok (.invokestatic 87, 3) := by decide +kernel
theorem dX6_nextCell_92 : decode cX6_nextCell 92 = .ok (.ifCond .eq 18, 3) := by decide +kernel
theorem dX6_nextCell_95 : decode cX6_nextCell 95 = .ok (.aload_n 0, 1) := by decide +kernel
theorem dX6_nextCell_96 : decode cX6_nextCell 96 = .ok (.getfield 13, 3) := by decide +kernel
theorem dX6_nextCell_99 : decode cX6_nextCell 99 = .ok (.bipush 16, 2) := by decide +kernel
theorem dX6_nextCell_101 : decode cX6_nextCell 101 = .ok (.iload 4, 2) := by decide +kernel
theorem dX6_nextCell_103 : decode cX6_nextCell 103 = .ok (.imul, 1) := by decide +kernel
theorem dX6_nextCell_104 : decode cX6_nextCell 104 = .ok (.iload_n 3, 1) := by decide +kernel
theorem dX6_nextCell_105 : decode cX6_nextCell 105 = .ok (.iadd, 1) := by decide +kernel
theorem dX6_nextCell_106 : decode cX6_nextCell 106 = .ok (.baload, 1) := by decide +kernel
theorem dX6_nextCell_107 : decode cX6_nextCell 107 = .ok (.ifCond .eq 8, 3) := by decide +kernel
theorem dX6_nextCell_110 : decode cX6_nextCell 110 = .ok (.bipush (-9), 2) := by decide +kernel
theorem dX6_nextCell_112 : decode cX6_nextCell 112 = .ok (.goto 10, 3) := by decide +kernel
theorem dX6_nextCell_115 : decode cX6_nextCell 115 = .ok (.bipush 16, 2) := by decide +kernel
theorem dX6_nextCell_117 : decode cX6_nextCell 117 = .ok (.iload 4, 2) := by decide +kernel
theorem dX6_nextCell_119 : decode cX6_nextCell 119 = .ok (.imul, 1) := by decide +kernel
theorem dX6_nextCell_120 : decode cX6_nextCell 120 = .ok (.iload_n 3, 1) := by decide +kernel
theorem dX6_nextCell_121 : decode cX6_nextCell 121 = .ok (.iadd, 1) := by decide +kernel
theorem dX6_nextCell_122 : decode cX6_nextCell 122 = .ok (.ireturn, 1) := by decide +kernel
theorem dX6_need_0 : decode cX6_need 0 = .ok (.iload_n 0, 1) := by decide +kernel
theorem dX6_need_1 : decode cX6_need 1 = .ok (.iconst 2, 1) := by decide +kernel
theorem dX6_need_2 : decode cX6_need 2 = .ok (.irem, 1) := by decide +kernel
theorem dX6_need_3 : decode cX6_need 3 = .ok (.ifCond .ne 8, 3) := by decide +kernel
theorem dX6_need_6 : decode cX6_need 6 = .ok (.bipush 60, 2) := by decide +kernel
theorem dX6_need_8 : decode cX6_need 8 = .ok (.goto 5, 3) := by decide +kernel
theorem dX6_need_11 : decode cX6_need 11 = .ok (.bipush 85, 2) := by decide +kernel
theorem dX6_need_13 : decode cX6_need 13 = .ok (.ireturn, 1) := by decide +kernel
set_option maxRecDepth 20000 in
theorem ggX6_isShip_X6_in : GoodIn wsX6_isShip wsX6_in := goodIn_r _ [5] rfl (by decide +kernel)
set_option maxRecDepth 20000 in
theorem gX6_isShip_X6_in : GoodIn wsX6_isShip (va_wsS RX6 87 yX6_in wsX6_in) := goodIn_app (goodIn_of _ (by decide +kernel)) ggX6_isShip_X6_in
theorem dX6_isShip_0 : decode cX6_isShip 0 = .ok (.iload_n 1, 1) := by decide +kernel
theorem dX6_isShip_1 : decode cX6_isShip 1 = .ok (.iconst 0, 1) := by decide +kernel
theorem dX6_isShip_2 : decode cX6_isShip 2 = .ok (.aload_n 0, 1) := by decide +kernel
theorem dX6_isShip_3 : decode cX6_isShip 3 = .ok (.getfield 110, 3) := by decide +kernel
theorem dX6_isShip_6 : decode cX6_isShip 6 = .ok (.iconst 1, 1) := by decide +kernel
theorem dX6_isShip_7 : decode cX6_isShip 7 = .ok (.isub, 1) := by decide +kernel
theorem dX6_isShip_8 : decode cX6_isShip 8 = .ok (.invokestatic 87, 3) := by decide +kernel
theorem dX6_isShip_11 : decode cX6_isShip 11 = .ok (.ireturn, 1) := by decide +kernel
set_option maxRecDepth 20000 in
theorem ggX6_ship_X6_in : GoodIn wsX6_ship wsX6_in := goodIn_r _ [11] rfl (by decide +kernel)
set_option maxRecDepth 20000 in
theorem gX6_ship_X6_in : GoodIn wsX6_ship (va_wsS RX6 87 yX6_in wsX6_in) := goodIn_app (goodIn_of _ (by decide +kernel)) ggX6_ship_X6_in
set_option maxRecDepth 20000 in
theorem ggX6_ship_X6_isCell : GoodIn wsX6_ship wsX6_isCell := goodIn_r _ [14, 8, 9, 10, 11] rfl (by decide +kernel)
set_option maxRecDepth 20000 in
theorem gX6_ship_X6_isCell : GoodIn wsX6_ship (va_wsS RX6 91 yX6_isCell wsX6_isCell) := goodIn_app (goodIn_of _ (by decide +kernel)) ggX6_ship_X6_isCell
theorem dX6_ship_0 : decode cX6_ship 0 = .ok (.iload_n 1, 1) := by decide +kernel
theorem dX6_ship_1 : decode cX6_ship 1 = .ok (.iconst 0, 1) := by decide +kernel
theorem dX6_ship_2 : decode cX6_ship 2 = .ok (.iconst 3, 1) := by decide +kernel
theorem dX6_ship_3 : decode cX6_ship 3 = .ok (.invokestatic 87, 3) := by decide +kernel
theorem dX6_ship_6 : decode cX6_ship 6 = .ok (.ifCond .eq 30, 3) := by decide +kernel
theorem dX6_ship_9 : decode cX6_ship 9 = .ok (.iload_n 2, 1) := by decide +kernel
theorem dX6_ship_10 : decode cX6_ship 10 = .ok (.invokestatic 91, 3) := by decide +kernel
theorem dX6_ship_13 : decode cX6_ship 13 = .ok (.ifCond .eq 23, 3) := by decide +kernel
theorem dX6_ship_16 : decode cX6_ship 16 = .ok (.aload_n 0, 1) := by decide +kernel
theorem dX6_ship_17 : decode cX6_ship 17 = .ok (.getfield 13, 3) := by decide +kernel
theorem dX6_ship_20 : decode cX6_ship 20 = .ok (.iload_n 2, 1) := by decide +kernel
theorem dX6_ship_21 : decode cX6_ship 21 = .ok (.baload, 1) := by decide +kernel
theorem dX6_ship_22 : decode cX6_ship 22 = .ok (.ifCond .ne 14, 3) := by decide +kernel
theorem dX6_ship_25 : decode cX6_ship 25 = .ok (.iload_n 3, 1) := by decide +kernel
theorem dX6_ship_26 : decode cX6_ship 26 = .ok (.iconst 0, 1) := by decide +kernel
theorem dX6_ship_27 : decode cX6_ship 27 = .ok (.sipush 20000, 3) := by decide +kernel
theorem dX6_ship_30 : decode cX6_ship 30 = .ok (.invokestatic 87, 3) := by decide +kernel
theorem dX6_ship_33 : decode cX6_ship 33 = .ok (.ifCond .ne 5, 3) := by decide +kernel
theorem dX6_ship_36 : decode cX6_ship 36 = .ok (.iconst (-1), 1) := by decide +kernel
theorem dX6_ship_37 : decode cX6_ship 37 = .ok (.ireturn, 1) := by decide +kernel
theorem dX6_ship_38 : decode cX6_ship 38 = .ok (.aload_n 0, 1) := by decide +kernel
theorem dX6_ship_39 : decode cX6_ship 39 = .ok (.getfield 110, 3) := by decide +kernel
theorem dX6_ship_42 : decode cX6_ship 42 = .ok (.bipush 8, 2) := by decide +kernel
theorem dX6_ship_44 : decode cX6_ship 44 = .ok (.if_icmp .ne 6, 3) := by decide +kernel
theorem dX6_ship_47 : decode cX6_ship 47 = .ok (.bipush (-2), 2) := by decide +kernel
theorem dX6_ship_49 : decode cX6_ship 49 = .ok (.ireturn, 1) := by decide +kernel
theorem dX6_ship_50 : decode cX6_ship 50 = .ok (.aload_n 0, 1) := by decide +kernel
theorem dX6_ship_51 : decode cX6_ship 51 = .ok (.getfield 113, 3) := by decide +kernel
theorem dX6_ship_54 : decode cX6_ship 54 = .ok (.ifCond .eq 6, 3) := by decide +kernel
theorem dX6_ship_57 : decode cX6_ship 57 = .ok (.bipush (-4), 2) := by decide +kernel
theorem dX6_ship_59 : decode cX6_ship 59 = .ok (.ireturn, 1) := by decide +kernel
theorem dX6_ship_60 : decode cX6_ship 60 = .ok (.aload_n 0, 1) := by decide +kernel
theorem dX6_ship_61 : decode cX6_ship 61 = .ok (.getfield 26, 3) := by decide +kernel
theorem dX6_ship_64 : decode cX6_ship 64 = .ok (.aload_n 0, 1) := by decide +kernel
theorem dX6_ship_65 : decode cX6_ship 65 = .ok (.getfield 110, 3) := by decide +kernel
theorem dX6_ship_68 : decode cX6_ship 68 = .ok (.iload_n 1, 1) := by decide +kernel
theorem dX6_ship_69 : decode cX6_ship 69 = .ok (.iastore, 1) := by decide +kernel
theorem dX6_ship_70 : decode cX6_ship 70 = .ok (.aload_n 0, 1) := by decide +kernel
theorem dX6_ship_71 : decode cX6_ship 71 = .ok (.getfield 29, 3) := by decide +kernel
theorem dX6_ship_74 : decode cX6_ship 74 = .ok (.aload_n 0, 1) := by decide +kernel
theorem dX6_ship_75 : decode cX6_ship 75 = .ok (.getfield 110, 3) := by decide +kernel
theorem dX6_ship_78 : decode cX6_ship 78 = .ok (.iload_n 2, 1) := by decide +kernel
theorem dX6_ship_79 : decode cX6_ship 79 = .ok (.iastore, 1) := by decide +kernel
theorem dX6_ship_80 : decode cX6_ship 80 = .ok (.aload_n 0, 1) := by decide +kernel
theorem dX6_ship_81 : decode cX6_ship 81 = .ok (.getfield 41, 3) := by decide +kernel
theorem dX6_ship_84 : decode cX6_ship 84 = .ok (.aload_n 0, 1) := by decide +kernel
theorem dX6_ship_85 : decode cX6_ship 85 = .ok (.getfield 110, 3) := by decide +kernel
theorem dX6_ship_88 : decode cX6_ship 88 = .ok (.iload_n 3, 1) := by decide +kernel
theorem dX6_ship_89 : decode cX6_ship 89 = .ok (.iastore, 1) := by decide +kernel
theorem dX6_ship_90 : decode cX6_ship 90 = .ok (.aload_n 0, 1) := by decide +kernel
theorem dX6_ship_91 : decode cX6_ship 91 = .ok (.getfield 38, 3) := by decide +kernel
theorem dX6_ship_94 : decode cX6_ship 94 = .ok (.aload_n 0, 1) := by decide +kernel
theorem dX6_ship_95 : decode cX6_ship 95 = .ok (.getfield 110, 3) := by decide +kernel
theorem dX6_ship_98 : decode cX6_ship 98 = .ok (.bipush (-9), 2) := by decide +kernel
theorem dX6_ship_100 : decode cX6_ship 100 = .ok (.iastore, 1) := by decide +kernel
theorem dX6_ship_101 : decode cX6_ship 101 = .ok (.aload_n 0, 1) := by decide +kernel
theorem dX6_ship_102 : decode cX6_ship 102 = .ok (.dup, 1) := by decide +kernel
theorem dX6_ship_103 : decode cX6_ship 103 = .ok (.getfield 110, 3) := by decide +kernel
theorem dX6_ship_106 : decode cX6_ship 106 = .ok (.iconst 1, 1) := by decide +kernel
theorem dX6_ship_107 : decode cX6_ship 107 = .ok (.iadd, 1) := by decide +kernel
theorem dX6_ship_108 : decode cX6_ship 108 = .ok (.putfield 110, 3) := by decide +kernel
theorem dX6_ship_111 : decode cX6_ship 111 = .ok (.aload_n 0, 1) := by decide +kernel
theorem dX6_ship_112 : decode cX6_ship 112 = .ok (.getfield 110, 3) := by decide +kernel
theorem dX6_ship_115 : decode cX6_ship 115 = .ok (.iconst 1, 1) := by decide +kernel
theorem dX6_ship_116 : decode cX6_ship 116 = .ok (.isub, 1) := by decide +kernel
theorem dX6_ship_117 : decode cX6_ship 117 = .ok (.ireturn, 1) := by decide +kernel
set_option maxRecDepth 20000 in
theorem ggX6_foul_X6_isShip : GoodIn wsX6_foul wsX6_isShip := goodIn_r _ [6, 7, 8, 9, 5, 10, 11, 12, 13, 14, 15, 16, 17, 18, 19, 20, 21, 22, 23, 24, 25, 26, 27, 28, 29, 30, 31, 32, 33, 34, 35, 36, 37, 38, 39, 40, 41] rfl (by decide +kernel)
set_option maxRecDepth 20000 in
theorem gX6_foul_X6_isShip : GoodIn wsX6_foul (wsV RX6 116 RX6 yX6_isShip wsX6_isShip) := goodIn_app (goodIn_of _ (by decide +kernel)) ggX6_foul_X6_isShip
set_option maxRecDepth 20000 in
theorem ggX6_foul_X6_in : GoodIn wsX6_foul wsX6_in := goodIn_r _ [10] rfl (by decide +kernel)
set_option maxRecDepth 20000 in
theorem gX6_foul_X6_in : GoodIn wsX6_foul (va_wsS RX6 87 yX6_in wsX6_in) := goodIn_app (goodIn_of _ (by decide +kernel)) ggX6_foul_X6_in
theorem dX6_foul_0 : decode cX6_foul 0 = .ok (.aload_n 0, 1) := by decide +kernel
theorem dX6_foul_1 : decode cX6_foul 1 = .ok (.iload_n 1, 1) := by decide +kernel
theorem dX6_foul_2 : decode cX6_foul 2 = .ok (.invokevirtual 116, 3) := by decide +kernel
theorem dX6_foul_5 : decode cX6_foul 5 = .ok (.ifCond .eq 13, 3) := by decide +kernel
theorem dX6_foul_8 : decode cX6_foul 8 = .ok (.iload_n 2, 1) := by decide +kernel
theorem dX6_foul_9 : decode cX6_foul 9 = .ok (.iconst 0, 1) := by decide +kernel
theorem dX6_foul_10 : decode cX6_foul 10 = .ok (.bipush 9, 2) := by decide +kernel
theorem dX6_foul_12 : decode cX6_foul 12 = .ok (.invokestatic 87, 3) := by decide +kernel
theorem dX6_foul_15 : decode cX6_foul 15 = .ok (.ifCond .ne 5, 3) := by decide +kernel
theorem dX6_foul_18 : decode cX6_foul 18 = .ok (.iconst (-1), 1) := by decide +kernel
theorem dX6_foul_19 : decode cX6_foul 19 = .ok (.ireturn, 1) := by decide +kernel
theorem dX6_foul_20 : decode cX6_foul 20 = .ok (.aload_n 0, 1) := by decide +kernel
theorem dX6_foul_21 : decode cX6_foul 21 = .ok (.getfield 44, 3) := by decide +kernel
theorem dX6_foul_24 : decode cX6_foul 24 = .ok (.iload_n 1, 1) := by decide +kernel
theorem dX6_foul_25 : decode cX6_foul 25 = .ok (.iaload, 1) := by decide +kernel
theorem dX6_foul_26 : decode cX6_foul 26 = .ok (.istore_n 3, 1) := by decide +kernel
theorem dX6_foul_27 : decode cX6_foul 27 = .ok (.aload_n 0, 1) := by decide +kernel
theorem dX6_foul_28 : decode cX6_foul 28 = .ok (.getfield 44, 3) := by decide +kernel
theorem dX6_foul_31 : decode cX6_foul 31 = .ok (.iload_n 1, 1) := by decide +kernel
theorem dX6_foul_32 : decode cX6_foul 32 = .ok (.iload_n 2, 1) := by decide +kernel
theorem dX6_foul_33 : decode cX6_foul 33 = .ok (.iastore, 1) := by decide +kernel
theorem dX6_foul_34 : decode cX6_foul 34 = .ok (.iload_n 3, 1) := by decide +kernel
theorem dX6_foul_35 : decode cX6_foul 35 = .ok (.ireturn, 1) := by decide +kernel
theorem dX6_entryOf_0 : decode cX6_entryOf 0 = .ok (.aload_n 0, 1) := by decide +kernel
theorem dX6_entryOf_1 : decode cX6_entryOf 1 = .ok (.getfield 38, 3) := by decide +kernel
theorem dX6_entryOf_4 : decode cX6_entryOf 4 = .ok (.iload_n 1, 1) := by decide +kernel
theorem dX6_entryOf_5 : decode cX6_entryOf 5 = .ok (.iaload, 1) := by decide +kernel
theorem dX6_entryOf_6 : decode cX6_entryOf 6 = .ok (.bipush (-9), 2) := by decide +kernel
theorem dX6_entryOf_8 : decode cX6_entryOf 8 = .ok (.if_icmp .ne 6, 3) := by decide +kernel
theorem dX6_entryOf_11 : decode cX6_entryOf 11 = .ok (.bipush (-9), 2) := by decide +kernel
theorem dX6_entryOf_13 : decode cX6_entryOf 13 = .ok (.ireturn, 1) := by decide +kernel
theorem dX6_entryOf_14 : decode cX6_entryOf 14 = .ok (.aload_n 0, 1) := by decide +kernel
theorem dX6_entryOf_15 : decode cX6_entryOf 15 = .ok (.getfield 38, 3) := by decide +kernel
theorem dX6_entryOf_18 : decode cX6_entryOf 18 = .ok (.iload_n 1, 1) := by decide +kernel
theorem dX6_entryOf_19 : decode cX6_entryOf 19 = .ok (.iaload, 1) := by decide +kernel
theorem dX6_entryOf_20 : decode cX6_entryOf 20 = .ok (.istore_n 2, 1) := by decide +kernel
theorem dX6_entryOf_21 : decode cX6_entryOf 21 = .ok (.iload_n 2, 1) := by decide +kernel
theorem dX6_entryOf_22 : decode cX6_entryOf 22 = .ok (.bipush 24, 2) := by decide +kernel
theorem dX6_entryOf_24 : decode cX6_entryOf 24 = .ok (.irem, 1) := by decide +kernel
theorem dX6_entryOf_25 : decode cX6_entryOf 25 = .ok (.bipush 24, 2) := by decide +kernel
theorem dX6_entryOf_27 : decode cX6_entryOf 27 = .ok (.iadd, 1) := by decide +kernel
theorem dX6_entryOf_28 : decode cX6_entryOf 28 = .ok (.aload_n 0, 1) := by decide +kernel
theorem dX6_entryOf_29 : decode cX6_entryOf 29 = .ok (.getfield 119, 3) := by decide +kernel
theorem dX6_entryOf_32 : decode cX6_entryOf 32 = .ok (.isub, 1) := by decide +kernel
theorem dX6_entryOf_33 : decode cX6_entryOf 33 = .ok (.bipush 24, 2) := by decide +kernel
theorem dX6_entryOf_35 : decode cX6_entryOf 35 = .ok (.irem, 1) := by decide +kernel
theorem dX6_entryOf_36 : decode cX6_entryOf 36 = .ok (.iconst 5, 1) := by decide +kernel
theorem dX6_entryOf_37 : decode cX6_entryOf 37 = .ok (.if_icmp .le 9, 3) := by decide +kernel
theorem dX6_entryOf_40 : decode cX6_entryOf 40 = .ok (.iinc 2 1, 3) := by decide +kernel
theorem dX6_entryOf_43 : decode cX6_entryOf 43 = .ok (.goto (-22), 3) := by decide +kernel
theorem dX6_entryOf_46 : decode cX6_entryOf 46 = .ok (.iload_n 2, 1) := by decide +kernel
theorem dX6_entryOf_47 : decode cX6_entryOf 47 = .ok (.ireturn, 1) := by decide +kernel
set_option maxRecDepth 20000 in
theorem ggX6_tells_X6_entryOf : GoodIn wsX6_tells wsX6_entryOf := goodIn_r _ [11, 5, 12, 13, 14, 15, 16, 17, 18, 19, 20, 21, 22, 23, 24, 25, 26, 27, 28, 29, 30, 31, 32, 33, 34, 35, 36, 37, 38, 39, 40, 41, 42, 43] rfl (by decide +kernel)
set_option maxRecDepth 20000 in
theorem gX6_tells_X6_entryOf : GoodIn wsX6_tells (wsV RX6 122 RX6 yX6_entryOf wsX6_entryOf) := goodIn_app (goodIn_of _ (by decide +kernel)) ggX6_tells_X6_entryOf
theorem dX6_tells_0 : decode cX6_tells 0 = .ok (.iload_n 2, 1) := by decide +kernel
theorem dX6_tells_1 : decode cX6_tells 1 = .ok (.tableswitch 80 0 5 #[39, 46, 53, 60, 67, 74], 39) := by decide +kernel
theorem dX6_tells_40 : decode cX6_tells 40 = .ok (.aload_n 0, 1) := by decide +kernel
theorem dX6_tells_41 : decode cX6_tells 41 = .ok (.getfield 26, 3) := by decide +kernel
theorem dX6_tells_44 : decode cX6_tells 44 = .ok (.iload_n 1, 1) := by decide +kernel
theorem dX6_tells_45 : decode cX6_tells 45 = .ok (.iaload, 1) := by decide +kernel
theorem dX6_tells_46 : decode cX6_tells 46 = .ok (.ireturn, 1) := by decide +kernel
theorem dX6_tells_47 : decode cX6_tells 47 = .ok (.aload_n 0, 1) := by decide +kernel
theorem dX6_tells_48 : decode cX6_tells 48 = .ok (.getfield 29, 3) := by decide +kernel
theorem dX6_tells_51 : decode cX6_tells 51 = .ok (.iload_n 1, 1) := by decide +kernel
theorem dX6_tells_52 : decode cX6_tells 52 = .ok (.iaload, 1) := by decide +kernel
theorem dX6_tells_53 : decode cX6_tells 53 = .ok (.ireturn, 1) := by decide +kernel
theorem dX6_tells_54 : decode cX6_tells 54 = .ok (.aload_n 0, 1) := by decide +kernel
theorem dX6_tells_55 : decode cX6_tells 55 = .ok (.getfield 32, 3) := by decide +kernel
