theorem dX6_least_300 : decode cX6_least 300 = .ok (.iinc 6 1, 3) := by decide +kernel
theorem dX6_least_303 : decode cX6_least 303 = .ok (.goto (-65), 3) := by decide +kernel
theorem dX6_least_306 : decode cX6_least 306 = .ok (.goto (-208), 3) := by decide +kernel
theorem dX6_least_309 : decode cX6_least 309 = .ok (.iload 5, 2) := by decide +kernel
theorem dX6_least_311 : decode cX6_least 311 = .ok (.ifCond .ge 8, 3) := by decide +kernel
theorem dX6_least_314 : decode cX6_least 314 = .ok (.bipush (-9), 2) := by decide +kernel
theorem dX6_least_316 : decode cX6_least 316 = .ok (.goto 9, 3) := by decide +kernel
theorem dX6_least_319 : decode cX6_least 319 = .ok (.aload_n 0, 1) := by decide +kernel
theorem dX6_least_320 : decode cX6_least 320 = .ok (.getfield 62, 3) := by decide +kernel
theorem dX6_least_323 : decode cX6_least 323 = .ok (.iload_n 3, 1) := by decide +kernel
theorem dX6_least_324 : decode cX6_least 324 = .ok (.iaload, 1) := by decide +kernel
theorem dX6_least_325 : decode cX6_least 325 = .ok (.ireturn, 1) := by decide +kernel
set_option maxRecDepth 20000 in
theorem ggX6_sight_X6_isShip : GoodIn wsX6_sight wsX6_isShip := goodIn_r _ [10, 11, 12, 13, 9, 14, 18, 19, 20, 21, 22, 23, 24, 25, 26, 27, 28, 29, 30, 31, 32, 33, 34, 35, 36, 37, 38, 39, 40, 41, 42, 43, 44, 45, 46, 47, 48] rfl (by decide +kernel)
set_option maxRecDepth 20000 in
theorem gX6_sight_X6_isShip : GoodIn wsX6_sight (wsV RX6 116 RX6 yX6_isShip wsX6_isShip) := goodIn_app (goodIn_of _ (by decide +kernel)) ggX6_sight_X6_isShip
set_option maxRecDepth 20000 in
theorem ggX6_sight_X6_isCell : GoodIn wsX6_sight wsX6_isCell := goodIn_r _ [17, 12, 13, 9, 14] rfl (by decide +kernel)
set_option maxRecDepth 20000 in
theorem gX6_sight_X6_isCell : GoodIn wsX6_sight (va_wsS RX6 91 yX6_isCell wsX6_isCell) := goodIn_app (goodIn_of _ (by decide +kernel)) ggX6_sight_X6_isCell
set_option maxRecDepth 20000 in
theorem ggX6_sight_X6_in : GoodIn wsX6_sight wsX6_in := goodIn_r _ [14] rfl (by decide +kernel)
set_option maxRecDepth 20000 in
theorem gX6_sight_X6_in : GoodIn wsX6_sight (va_wsS RX6 87 yX6_in wsX6_in) := goodIn_app (goodIn_of _ (by decide +kernel)) ggX6_sight_X6_in
theorem dX6_sight_0 : decode cX6_sight 0 = .ok (.aload_n 0, 1) := by decide +kernel
theorem dX6_sight_1 : decode cX6_sight 1 = .ok (.iload_n 1, 1) := by decide +kernel
theorem dX6_sight_2 : decode cX6_sight 2 = .ok (.invokevirtual 116, 3) := by decide +kernel
theorem dX6_sight_5 : decode cX6_sight 5 = .ok (.ifCond .eq 24, 3) := by decide +kernel
theorem dX6_sight_8 : decode cX6_sight 8 = .ok (.iload_n 2, 1) := by decide +kernel
theorem dX6_sight_9 : decode cX6_sight 9 = .ok (.invokestatic 91, 3) := by decide +kernel
theorem dX6_sight_12 : decode cX6_sight 12 = .ok (.ifCond .eq 17, 3) := by decide +kernel
theorem dX6_sight_15 : decode cX6_sight 15 = .ok (.iload_n 3, 1) := by decide +kernel
theorem dX6_sight_16 : decode cX6_sight 16 = .ok (.iconst 0, 1) := by decide +kernel
theorem dX6_sight_17 : decode cX6_sight 17 = .ok (.ldc 152, 2) := by decide +kernel
theorem dX6_sight_19 : decode cX6_sight 19 = .ok (.invokestatic 87, 3) := by decide +kernel
theorem dX6_sight_22 : decode cX6_sight 22 = .ok (.ifCond .eq 7, 3) := by decide +kernel
theorem dX6_sight_25 : decode cX6_sight 25 = .ok (.iconst 1, 1) := by decide +kernel
theorem dX6_sight_26 : decode cX6_sight 26 = .ok (.goto 4, 3) := by decide +kernel
theorem dX6_sight_29 : decode cX6_sight 29 = .ok (.iconst 0, 1) := by decide +kernel
theorem dX6_sight_30 : decode cX6_sight 30 = .ok (.istore 4, 2) := by decide +kernel
theorem dX6_sight_32 : decode cX6_sight 32 = .ok (.iconst 0, 1) := by decide +kernel
theorem dX6_sight_33 : decode cX6_sight 33 = .ok (.istore 5, 2) := by decide +kernel
theorem dX6_sight_35 : decode cX6_sight 35 = .ok (.iload 5, 2) := by decide +kernel
theorem dX6_sight_37 : decode cX6_sight 37 = .ok (.aload_n 0, 1) := by decide +kernel
theorem dX6_sight_38 : decode cX6_sight 38 = .ok (.getfield 168, 3) := by decide +kernel
theorem dX6_sight_41 : decode cX6_sight 41 = .ok (.if_icmp .ge 43, 3) := by decide +kernel
theorem dX6_sight_44 : decode cX6_sight 44 = .ok (.iload 4, 2) := by decide +kernel
theorem dX6_sight_46 : decode cX6_sight 46 = .ok (.ifCond .eq 29, 3) := by decide +kernel
theorem dX6_sight_49 : decode cX6_sight 49 = .ok (.aload_n 0, 1) := by decide +kernel
theorem dX6_sight_50 : decode cX6_sight 50 = .ok (.getfield 68, 3) := by decide +kernel
theorem dX6_sight_53 : decode cX6_sight 53 = .ok (.iload 5, 2) := by decide +kernel
theorem dX6_sight_55 : decode cX6_sight 55 = .ok (.iaload, 1) := by decide +kernel
theorem dX6_sight_56 : decode cX6_sight 56 = .ok (.iload_n 1, 1) := by decide +kernel
theorem dX6_sight_57 : decode cX6_sight 57 = .ok (.if_icmp .ne 14, 3) := by decide +kernel
theorem dX6_sight_60 : decode cX6_sight 60 = .ok (.aload_n 0, 1) := by decide +kernel
theorem dX6_sight_61 : decode cX6_sight 61 = .ok (.getfield 74, 3) := by decide +kernel
theorem dX6_sight_64 : decode cX6_sight 64 = .ok (.iload 5, 2) := by decide +kernel
theorem dX6_sight_66 : decode cX6_sight 66 = .ok (.iaload, 1) := by decide +kernel
theorem dX6_sight_67 : decode cX6_sight 67 = .ok (.iload_n 3, 1) := by decide +kernel
theorem dX6_sight_68 : decode cX6_sight 68 = .ok (.if_icmp .ge 7, 3) := by decide +kernel
theorem dX6_sight_71 : decode cX6_sight 71 = .ok (.iconst 1, 1) := by decide +kernel
theorem dX6_sight_72 : decode cX6_sight 72 = .ok (.goto 4, 3) := by decide +kernel
theorem dX6_sight_75 : decode cX6_sight 75 = .ok (.iconst 0, 1) := by decide +kernel
theorem dX6_sight_76 : decode cX6_sight 76 = .ok (.istore 4, 2) := by decide +kernel
theorem dX6_sight_78 : decode cX6_sight 78 = .ok (.iinc 5 1, 3) := by decide +kernel
theorem dX6_sight_81 : decode cX6_sight 81 = .ok (.goto (-46), 3) := by decide +kernel
theorem dX6_sight_84 : decode cX6_sight 84 = .ok (.iload 4, 2) := by decide +kernel
theorem dX6_sight_86 : decode cX6_sight 86 = .ok (.ifCond .ne 5, 3) := by decide +kernel
theorem dX6_sight_89 : decode cX6_sight 89 = .ok (.iconst (-1), 1) := by decide +kernel
theorem dX6_sight_90 : decode cX6_sight 90 = .ok (.ireturn, 1) := by decide +kernel
theorem dX6_sight_91 : decode cX6_sight 91 = .ok (.aload_n 0, 1) := by decide +kernel
theorem dX6_sight_92 : decode cX6_sight 92 = .ok (.getfield 168, 3) := by decide +kernel
theorem dX6_sight_95 : decode cX6_sight 95 = .ok (.bipush 60, 2) := by decide +kernel
theorem dX6_sight_97 : decode cX6_sight 97 = .ok (.if_icmp .ne 6, 3) := by decide +kernel
theorem dX6_sight_100 : decode cX6_sight 100 = .ok (.bipush (-2), 2) := by decide +kernel
theorem dX6_sight_102 : decode cX6_sight 102 = .ok (.ireturn, 1) := by decide +kernel
theorem dX6_sight_103 : decode cX6_sight 103 = .ok (.aload_n 0, 1) := by decide +kernel
theorem dX6_sight_104 : decode cX6_sight 104 = .ok (.getfield 68, 3) := by decide +kernel
theorem dX6_sight_107 : decode cX6_sight 107 = .ok (.aload_n 0, 1) := by decide +kernel
theorem dX6_sight_108 : decode cX6_sight 108 = .ok (.getfield 168, 3) := by decide +kernel
theorem dX6_sight_111 : decode cX6_sight 111 = .ok (.iload_n 1, 1) := by decide +kernel
theorem dX6_sight_112 : decode cX6_sight 112 = .ok (.iastore, 1) := by decide +kernel
theorem dX6_sight_113 : decode cX6_sight 113 = .ok (.aload_n 0, 1) := by decide +kernel
theorem dX6_sight_114 : decode cX6_sight 114 = .ok (.getfield 71, 3) := by decide +kernel
theorem dX6_sight_117 : decode cX6_sight 117 = .ok (.aload_n 0, 1) := by decide +kernel
theorem dX6_sight_118 : decode cX6_sight 118 = .ok (.getfield 168, 3) := by decide +kernel
theorem dX6_sight_121 : decode cX6_sight 121 = .ok (.iload_n 2, 1) := by decide +kernel
theorem dX6_sight_122 : decode cX6_sight 122 = .ok (.iastore, 1) := by decide +kernel
theorem dX6_sight_123 : decode cX6_sight 123 = .ok (.aload_n 0, 1) := by decide +kernel
theorem dX6_sight_124 : decode cX6_sight 124 = .ok (.getfield 74, 3) := by decide +kernel
theorem dX6_sight_127 : decode cX6_sight 127 = .ok (.aload_n 0, 1) := by decide +kernel
theorem dX6_sight_128 : decode cX6_sight 128 = .ok (.getfield 168, 3) := by decide +kernel
theorem dX6_sight_131 : decode cX6_sight 131 = .ok (.iload_n 3, 1) := by decide +kernel
theorem dX6_sight_132 : decode cX6_sight 132 = .ok (.iastore, 1) := by decide +kernel
theorem dX6_sight_133 : decode cX6_sight 133 = .ok (.aload_n 0, 1) := by decide +kernel
theorem dX6_sight_134 : decode cX6_sight 134 = .ok (.dup, 1) := by decide +kernel
theorem dX6_sight_135 : decode cX6_sight 135 = .ok (.getfield 168, 3) := by decide +kernel
theorem dX6_sight_138 : decode cX6_sight 138 = .ok (.iconst 1, 1) := by decide +kernel
theorem dX6_sight_139 : decode cX6_sight 139 = .ok (.iadd, 1) := by decide +kernel
theorem dX6_sight_140 : decode cX6_sight 140 = .ok (.putfield 168, 3) := by decide +kernel
theorem dX6_sight_143 : decode cX6_sight 143 = .ok (.aload_n 0, 1) := by decide +kernel
theorem dX6_sight_144 : decode cX6_sight 144 = .ok (.getfield 168, 3) := by decide +kernel
theorem dX6_sight_147 : decode cX6_sight 147 = .ok (.ireturn, 1) := by decide +kernel
theorem dX6_apart_0 : decode cX6_apart 0 = .ok (.iload_n 0, 1) := by decide +kernel
theorem dX6_apart_1 : decode cX6_apart 1 = .ok (.iload_n 1, 1) := by decide +kernel
theorem dX6_apart_2 : decode cX6_apart 2 = .ok (.if_icmp .le 9, 3) := by decide +kernel
theorem dX6_apart_5 : decode cX6_apart 5 = .ok (.iload_n 0, 1) := by decide +kernel
theorem dX6_apart_6 : decode cX6_apart 6 = .ok (.iload_n 1, 1) := by decide +kernel
theorem dX6_apart_7 : decode cX6_apart 7 = .ok (.isub, 1) := by decide +kernel
theorem dX6_apart_8 : decode cX6_apart 8 = .ok (.goto 6, 3) := by decide +kernel
theorem dX6_apart_11 : decode cX6_apart 11 = .ok (.iload_n 1, 1) := by decide +kernel
theorem dX6_apart_12 : decode cX6_apart 12 = .ok (.iload_n 0, 1) := by decide +kernel
theorem dX6_apart_13 : decode cX6_apart 13 = .ok (.isub, 1) := by decide +kernel
theorem dX6_apart_14 : decode cX6_apart 14 = .ok (.ireturn, 1) := by decide +kernel
set_option maxRecDepth 20000 in
theorem ggX6_farOf_X6_apart : GoodIn wsX6_farOf wsX6_apart := goodIn_r _ [5] rfl (by decide +kernel)
set_option maxRecDepth 20000 in
theorem gX6_farOf_X6_apart : GoodIn wsX6_farOf (va_wsS RX6 171 yX6_apart wsX6_apart) := goodIn_app (goodIn_of _ (by decide +kernel)) ggX6_farOf_X6_apart
theorem dX6_farOf_0 : decode cX6_farOf 0 = .ok (.iload_n 1, 1) := by decide +kernel
theorem dX6_farOf_1 : decode cX6_farOf 1 = .ok (.bipush 16, 2) := by decide +kernel
theorem dX6_farOf_3 : decode cX6_farOf 3 = .ok (.irem, 1) := by decide +kernel
theorem dX6_farOf_4 : decode cX6_farOf 4 = .ok (.aload_n 0, 1) := by decide +kernel
theorem dX6_farOf_5 : decode cX6_farOf 5 = .ok (.getfield 136, 3) := by decide +kernel
theorem dX6_farOf_8 : decode cX6_farOf 8 = .ok (.bipush 16, 2) := by decide +kernel
theorem dX6_farOf_10 : decode cX6_farOf 10 = .ok (.irem, 1) := by decide +kernel
theorem dX6_farOf_11 : decode cX6_farOf 11 = .ok (.invokestatic 171, 3) := by decide +kernel
theorem dX6_farOf_14 : decode cX6_farOf 14 = .ok (.istore_n 2, 1) := by decide +kernel
theorem dX6_farOf_15 : decode cX6_farOf 15 = .ok (.iload_n 1, 1) := by decide +kernel
theorem dX6_farOf_16 : decode cX6_farOf 16 = .ok (.bipush 16, 2) := by decide +kernel
theorem dX6_farOf_18 : decode cX6_farOf 18 = .ok (.idiv, 1) := by decide +kernel
theorem dX6_farOf_19 : decode cX6_farOf 19 = .ok (.aload_n 0, 1) := by decide +kernel
theorem dX6_farOf_20 : decode cX6_farOf 20 = .ok (.getfield 136, 3) := by decide +kernel
theorem dX6_farOf_23 : decode cX6_farOf 23 = .ok (.bipush 16, 2) := by decide +kernel
theorem dX6_farOf_25 : decode cX6_farOf 25 = .ok (.idiv, 1) := by decide +kernel
theorem dX6_farOf_26 : decode cX6_farOf 26 = .ok (.invokestatic 171, 3) := by decide +kernel
theorem dX6_farOf_29 : decode cX6_farOf 29 = .ok (.istore_n 3, 1) := by decide +kernel
theorem dX6_farOf_30 : decode cX6_farOf 30 = .ok (.iload_n 2, 1) := by decide +kernel
theorem dX6_farOf_31 : decode cX6_farOf 31 = .ok (.iload_n 3, 1) := by decide +kernel
theorem dX6_farOf_32 : decode cX6_farOf 32 = .ok (.if_icmp .le 7, 3) := by decide +kernel
theorem dX6_farOf_35 : decode cX6_farOf 35 = .ok (.iload_n 2, 1) := by decide +kernel
theorem dX6_farOf_36 : decode cX6_farOf 36 = .ok (.goto 4, 3) := by decide +kernel
theorem dX6_farOf_39 : decode cX6_farOf 39 = .ok (.iload_n 3, 1) := by decide +kernel
theorem dX6_farOf_40 : decode cX6_farOf 40 = .ok (.ireturn, 1) := by decide +kernel
set_option maxRecDepth 20000 in
theorem ggX6_distanceOf_X6_farOf : GoodIn wsX6_distanceOf wsX6_farOf := goodIn_r _ [9, 10, 11, 12, 8, 13, 14, 15, 16, 17, 18, 19, 20, 21, 22, 23, 24, 25, 26, 27, 28, 29, 30, 31, 32, 33, 34, 35, 36, 37, 38, 39, 40, 41, 42, 43, 44] rfl (by decide +kernel)
set_option maxRecDepth 20000 in
theorem gX6_distanceOf_X6_farOf : GoodIn wsX6_distanceOf (wsV RX6 174 RX6 yX6_farOf wsX6_farOf) := goodIn_app (goodIn_of _ (by decide +kernel)) ggX6_distanceOf_X6_farOf
theorem dX6_distanceOf_0 : decode cX6_distanceOf 0 = .ok (.bipush (-9), 2) := by decide +kernel
theorem dX6_distanceOf_2 : decode cX6_distanceOf 2 = .ok (.istore 4, 2) := by decide +kernel
theorem dX6_distanceOf_4 : decode cX6_distanceOf 4 = .ok (.bipush (-9), 2) := by decide +kernel
theorem dX6_distanceOf_6 : decode cX6_distanceOf 6 = .ok (.istore 5, 2) := by decide +kernel
theorem dX6_distanceOf_8 : decode cX6_distanceOf 8 = .ok (.iconst 0, 1) := by decide +kernel
theorem dX6_distanceOf_9 : decode cX6_distanceOf 9 = .ok (.istore 6, 2) := by decide +kernel
theorem dX6_distanceOf_11 : decode cX6_distanceOf 11 = .ok (.iload 6, 2) := by decide +kernel
theorem dX6_distanceOf_13 : decode cX6_distanceOf 13 = .ok (.aload_n 0, 1) := by decide +kernel
theorem dX6_distanceOf_14 : decode cX6_distanceOf 14 = .ok (.getfield 168, 3) := by decide +kernel
theorem dX6_distanceOf_17 : decode cX6_distanceOf 17 = .ok (.if_icmp .ge 65, 3) := by decide +kernel
theorem dX6_distanceOf_20 : decode cX6_distanceOf 20 = .ok (.aload_n 0, 1) := by decide +kernel
theorem dX6_distanceOf_21 : decode cX6_distanceOf 21 = .ok (.getfield 68, 3) := by decide +kernel
theorem dX6_distanceOf_24 : decode cX6_distanceOf 24 = .ok (.iload 6, 2) := by decide +kernel
theorem dX6_distanceOf_26 : decode cX6_distanceOf 26 = .ok (.iaload, 1) := by decide +kernel
theorem dX6_distanceOf_27 : decode cX6_distanceOf 27 = .ok (.iload_n 1, 1) := by decide +kernel
theorem dX6_distanceOf_28 : decode cX6_distanceOf 28 = .ok (.if_icmp .ne 48, 3) := by decide +kernel
theorem dX6_distanceOf_31 : decode cX6_distanceOf 31 = .ok (.aload_n 0, 1) := by decide +kernel
theorem dX6_distanceOf_32 : decode cX6_distanceOf 32 = .ok (.getfield 74, 3) := by decide +kernel
theorem dX6_distanceOf_35 : decode cX6_distanceOf 35 = .ok (.iload 6, 2) := by decide +kernel
theorem dX6_distanceOf_37 : decode cX6_distanceOf 37 = .ok (.iaload, 1) := by decide +kernel
theorem dX6_distanceOf_38 : decode cX6_distanceOf 38 = .ok (.iload_n 2, 1) := by decide +kernel
theorem dX6_distanceOf_39 : decode cX6_distanceOf 39 = .ok (.if_icmp .gt 8, 3) := by decide +kernel
theorem dX6_distanceOf_42 : decode cX6_distanceOf 42 = .ok (.iload 6, 2) := by decide +kernel
theorem dX6_distanceOf_44 : decode cX6_distanceOf 44 = .ok (.goto 5, 3) := by decide +kernel
theorem dX6_distanceOf_47 : decode cX6_distanceOf 47 = .ok (.iload 4, 2) := by decide +kernel
theorem dX6_distanceOf_49 : decode cX6_distanceOf 49 = .ok (.istore 4, 2) := by decide +kernel
theorem dX6_distanceOf_51 : decode cX6_distanceOf 51 = .ok (.iload 5, 2) := by decide +kernel
theorem dX6_distanceOf_53 : decode cX6_distanceOf 53 = .ok (.ifCond .ge 19, 3) := by decide +kernel
theorem dX6_distanceOf_56 : decode cX6_distanceOf 56 = .ok (.aload_n 0, 1) := by decide +kernel
theorem dX6_distanceOf_57 : decode cX6_distanceOf 57 = .ok (.getfield 74, 3) := by decide +kernel
theorem dX6_distanceOf_60 : decode cX6_distanceOf 60 = .ok (.iload 6, 2) := by decide +kernel
theorem dX6_distanceOf_62 : decode cX6_distanceOf 62 = .ok (.iaload, 1) := by decide +kernel
theorem dX6_distanceOf_63 : decode cX6_distanceOf 63 = .ok (.iload_n 2, 1) := by decide +kernel
theorem dX6_distanceOf_64 : decode cX6_distanceOf 64 = .ok (.if_icmp .lt 8, 3) := by decide +kernel
theorem dX6_distanceOf_67 : decode cX6_distanceOf 67 = .ok (.iload 6, 2) := by decide +kernel
theorem dX6_distanceOf_69 : decode cX6_distanceOf 69 = .ok (.goto 5, 3) := by decide +kernel
theorem dX6_distanceOf_72 : decode cX6_distanceOf 72 = .ok (.iload 5, 2) := by decide +kernel
theorem dX6_distanceOf_74 : decode cX6_distanceOf 74 = .ok (.istore 5, 2) := by decide +kernel
theorem dX6_distanceOf_76 : decode cX6_distanceOf 76 = .ok (.iinc 6 1, 3) := by decide +kernel
theorem dX6_distanceOf_79 : decode cX6_distanceOf 79 = .ok (.goto (-68), 3) := by decide +kernel
theorem dX6_distanceOf_82 : decode cX6_distanceOf 82 = .ok (.iload 4, 2) := by decide +kernel
theorem dX6_distanceOf_84 : decode cX6_distanceOf 84 = .ok (.ifCond .lt 8, 3) := by decide +kernel
theorem dX6_distanceOf_87 : decode cX6_distanceOf 87 = .ok (.iload 5, 2) := by decide +kernel
theorem dX6_distanceOf_89 : decode cX6_distanceOf 89 = .ok (.ifCond .ge 6, 3) := by decide +kernel
theorem dX6_distanceOf_92 : decode cX6_distanceOf 92 = .ok (.bipush (-9), 2) := by decide +kernel
theorem dX6_distanceOf_94 : decode cX6_distanceOf 94 = .ok (.ireturn, 1) := by decide +kernel
theorem dX6_distanceOf_95 : decode cX6_distanceOf 95 = .ok (.iload_n 2, 1) := by decide +kernel
theorem dX6_distanceOf_96 : decode cX6_distanceOf 96 = .ok (.aload_n 0, 1) := by decide +kernel
theorem dX6_distanceOf_97 : decode cX6_distanceOf 97 = .ok (.getfield 74, 3) := by decide +kernel
theorem dX6_distanceOf_100 : decode cX6_distanceOf 100 = .ok (.iload 4, 2) := by decide +kernel
theorem dX6_distanceOf_102 : decode cX6_distanceOf 102 = .ok (.iaload, 1) := by decide +kernel
theorem dX6_distanceOf_103 : decode cX6_distanceOf 103 = .ok (.isub, 1) := by decide +kernel
theorem dX6_distanceOf_104 : decode cX6_distanceOf 104 = .ok (.istore 6, 2) := by decide +kernel
theorem dX6_distanceOf_106 : decode cX6_distanceOf 106 = .ok (.aload_n 0, 1) := by decide +kernel
theorem dX6_distanceOf_107 : decode cX6_distanceOf 107 = .ok (.getfield 74, 3) := by decide +kernel
theorem dX6_distanceOf_110 : decode cX6_distanceOf 110 = .ok (.iload 5, 2) := by decide +kernel
theorem dX6_distanceOf_112 : decode cX6_distanceOf 112 = .ok (.iaload, 1) := by decide +kernel
theorem dX6_distanceOf_113 : decode cX6_distanceOf 113 = .ok (.iload_n 2, 1) := by decide +kernel
theorem dX6_distanceOf_114 : decode cX6_distanceOf 114 = .ok (.isub, 1) := by decide +kernel
theorem dX6_distanceOf_115 : decode cX6_distanceOf 115 = .ok (.istore 7, 2) := by decide +kernel
theorem dX6_distanceOf_117 : decode cX6_distanceOf 117 = .ok (.aload_n 0, 1) := by decide +kernel
theorem dX6_distanceOf_118 : decode cX6_distanceOf 118 = .ok (.aload_n 0, 1) := by decide +kernel
theorem dX6_distanceOf_119 : decode cX6_distanceOf 119 = .ok (.getfield 71, 3) := by decide +kernel
theorem dX6_distanceOf_122 : decode cX6_distanceOf 122 = .ok (.iload 4, 2) := by decide +kernel
theorem dX6_distanceOf_124 : decode cX6_distanceOf 124 = .ok (.iaload, 1) := by decide +kernel
theorem dX6_distanceOf_125 : decode cX6_distanceOf 125 = .ok (.invokevirtual 174, 3) := by decide +kernel
theorem dX6_distanceOf_128 : decode cX6_distanceOf 128 = .ok (.iload_n 3, 1) := by decide +kernel
theorem dX6_distanceOf_129 : decode cX6_distanceOf 129 = .ok (.ifCond .eq 8, 3) := by decide +kernel
theorem dX6_distanceOf_132 : decode cX6_distanceOf 132 = .ok (.iload 6, 2) := by decide +kernel
theorem dX6_distanceOf_134 : decode cX6_distanceOf 134 = .ok (.goto 6, 3) := by decide +kernel
theorem dX6_distanceOf_137 : decode cX6_distanceOf 137 = .ok (.iload 6, 2) := by decide +kernel
theorem dX6_distanceOf_139 : decode cX6_distanceOf 139 = .ok (.ineg, 1) := by decide +kernel
theorem dX6_distanceOf_140 : decode cX6_distanceOf 140 = .ok (.iadd, 1) := by decide +kernel
theorem dX6_distanceOf_141 : decode cX6_distanceOf 141 = .ok (.istore 8, 2) := by decide +kernel
theorem dX6_distanceOf_143 : decode cX6_distanceOf 143 = .ok (.aload_n 0, 1) := by decide +kernel
theorem dX6_distanceOf_144 : decode cX6_distanceOf 144 = .ok (.aload_n 0, 1) := by decide +kernel
theorem dX6_distanceOf_145 : decode cX6_distanceOf 145 = .ok (.getfield 71, 3) := by decide +kernel
theorem dX6_distanceOf_148 : decode cX6_distanceOf 148 = .ok (.iload 5, 2) := by decide +kernel
theorem dX6_distanceOf_150 : decode cX6_distanceOf 150 = .ok (.iaload, 1) := by decide +kernel
theorem dX6_distanceOf_151 : decode cX6_distanceOf 151 = .ok (.invokevirtual 174, 3) := by decide +kernel
theorem dX6_distanceOf_154 : decode cX6_distanceOf 154 = .ok (.iload_n 3, 1) := by decide +kernel
theorem dX6_distanceOf_155 : decode cX6_distanceOf 155 = .ok (.ifCond .eq 8, 3) := by decide +kernel
theorem dX6_distanceOf_158 : decode cX6_distanceOf 158 = .ok (.iload 7, 2) := by decide +kernel
theorem dX6_distanceOf_160 : decode cX6_distanceOf 160 = .ok (.goto 6, 3) := by decide +kernel
theorem dX6_distanceOf_163 : decode cX6_distanceOf 163 = .ok (.iload 7, 2) := by decide +kernel
theorem dX6_distanceOf_165 : decode cX6_distanceOf 165 = .ok (.ineg, 1) := by decide +kernel
theorem dX6_distanceOf_166 : decode cX6_distanceOf 166 = .ok (.iadd, 1) := by decide +kernel
theorem dX6_distanceOf_167 : decode cX6_distanceOf 167 = .ok (.istore 9, 2) := by decide +kernel
theorem dX6_distanceOf_169 : decode cX6_distanceOf 169 = .ok (.iload_n 3, 1) := by decide +kernel
theorem dX6_distanceOf_170 : decode cX6_distanceOf 170 = .ok (.iload 8, 2) := by decide +kernel
theorem dX6_distanceOf_172 : decode cX6_distanceOf 172 = .ok (.iload 9, 2) := by decide +kernel
theorem dX6_distanceOf_174 : decode cX6_distanceOf 174 = .ok (.if_icmp .ge 7, 3) := by decide +kernel
theorem dX6_distanceOf_177 : decode cX6_distanceOf 177 = .ok (.iconst 1, 1) := by decide +kernel
theorem dX6_distanceOf_178 : decode cX6_distanceOf 178 = .ok (.goto 4, 3) := by decide +kernel
theorem dX6_distanceOf_181 : decode cX6_distanceOf 181 = .ok (.iconst 0, 1) := by decide +kernel
theorem dX6_distanceOf_182 : decode cX6_distanceOf 182 = .ok (.if_icmp .ne 8, 3) := by decide +kernel
theorem dX6_distanceOf_185 : decode cX6_distanceOf 185 = .ok (.iload 8, 2) := by decide +kernel
theorem dX6_distanceOf_187 : decode cX6_distanceOf 187 = .ok (.goto 5, 3) := by decide +kernel
theorem dX6_distanceOf_190 : decode cX6_distanceOf 190 = .ok (.iload 9, 2) := by decide +kernel
theorem dX6_distanceOf_192 : decode cX6_distanceOf 192 = .ok (.istore 10, 2) := by decide +kernel
theorem dX6_distanceOf_194 : decode cX6_distanceOf 194 = .ok (.iload 10, 2) := by decide +kernel
theorem dX6_distanceOf_196 : decode cX6_distanceOf 196 = .ok (.ifCond .ge 7, 3) := by decide +kernel
theorem dX6_distanceOf_199 : decode cX6_distanceOf 199 = .ok (.iconst 0, 1) := by decide +kernel
theorem dX6_distanceOf_200 : decode cX6_distanceOf 200 = .ok (.goto 5, 3) := by decide +kernel
theorem dX6_distanceOf_203 : decode cX6_distanceOf 203 = .ok (.iload 10, 2) := by decide +kernel
theorem dX6_distanceOf_205 : decode cX6_distanceOf 205 = .ok (.ireturn, 1) := by decide +kernel
set_option maxRecDepth 20000 in
theorem ggX6_distance_X6_isShip : GoodIn wsX6_distance wsX6_isShip := goodIn_r _ [6, 7, 8, 9, 5, 10, 27, 28, 29, 30, 31, 32, 33, 34, 35, 36, 37, 38, 39, 40, 41, 42, 43, 44, 45, 46, 47, 48, 49, 50, 51, 52, 53, 54, 55, 56, 57] rfl (by decide +kernel)
set_option maxRecDepth 20000 in
theorem gX6_distance_X6_isShip : GoodIn wsX6_distance (wsV RX6 116 RX6 yX6_isShip wsX6_isShip) := goodIn_app (goodIn_of _ (by decide +kernel)) ggX6_distance_X6_isShip
set_option maxRecDepth 20000 in
theorem ggX6_distance_X6_in : GoodIn wsX6_distance wsX6_in := goodIn_r _ [10] rfl (by decide +kernel)
set_option maxRecDepth 20000 in
theorem gX6_distance_X6_in : GoodIn wsX6_distance (va_wsS RX6 87 yX6_in wsX6_in) := goodIn_app (goodIn_of _ (by decide +kernel)) ggX6_distance_X6_in
set_option maxRecDepth 20000 in
theorem ggX6_distance_X6_distanceOf : GoodIn wsX6_distance wsX6_distanceOf := goodIn_r _ [14, 15, 16, 17, 18, 19, 20, 21, 5, 22, 23, 24, 25, 26, 27, 28, 29, 30, 31, 32, 33, 34, 35, 36, 37, 38, 39, 40, 41, 42, 43, 44, 45, 46, 47, 48, 49, 50, 51, 52, 53, 54, 55, 56, 57] rfl (by decide +kernel)
set_option maxRecDepth 20000 in
theorem gX6_distance_X6_distanceOf : GoodIn wsX6_distance (wsV RX6 177 RX6 yX6_distanceOf wsX6_distanceOf) := goodIn_app (goodIn_of _ (by decide +kernel)) ggX6_distance_X6_distanceOf
theorem dX6_distance_0 : decode cX6_distance 0 = .ok (.aload_n 0, 1) := by decide +kernel
theorem dX6_distance_1 : decode cX6_distance 1 = .ok (.iload_n 1, 1) := by decide +kernel
theorem dX6_distance_2 : decode cX6_distance 2 = .ok (.invokevirtual 116, 3) := by decide +kernel
theorem dX6_distance_5 : decode cX6_distance 5 = .ok (.ifCond .eq 23, 3) := by decide +kernel
theorem dX6_distance_8 : decode cX6_distance 8 = .ok (.iload_n 2, 1) := by decide +kernel
theorem dX6_distance_9 : decode cX6_distance 9 = .ok (.iconst 0, 1) := by decide +kernel
theorem dX6_distance_10 : decode cX6_distance 10 = .ok (.ldc 152, 2) := by decide +kernel
theorem dX6_distance_12 : decode cX6_distance 12 = .ok (.invokestatic 87, 3) := by decide +kernel
theorem dX6_distance_15 : decode cX6_distance 15 = .ok (.ifCond .eq 13, 3) := by decide +kernel
theorem dX6_distance_18 : decode cX6_distance 18 = .ok (.aload_n 0, 1) := by decide +kernel
theorem dX6_distance_19 : decode cX6_distance 19 = .ok (.iload_n 1, 1) := by decide +kernel
theorem dX6_distance_20 : decode cX6_distance 20 = .ok (.iload_n 2, 1) := by decide +kernel
theorem dX6_distance_21 : decode cX6_distance 21 = .ok (.iload_n 3, 1) := by decide +kernel
theorem dX6_distance_22 : decode cX6_distance 22 = .ok (.invokevirtual 177, 3) := by decide +kernel
theorem dX6_distance_25 : decode cX6_distance 25 = .ok (.goto 4, 3) := by decide +kernel
theorem dX6_distance_28 : decode cX6_distance 28 = .ok (.iconst (-1), 1) := by decide +kernel
theorem dX6_distance_29 : decode cX6_distance 29 = .ok (.ireturn, 1) := by decide +kernel
set_option maxRecDepth 20000 in
theorem ggX6_ahead_X6_isShip : GoodIn wsX6_ahead wsX6_isShip := goodIn_r _ [6, 7, 8, 9, 5, 10, 27, 28, 29, 30, 31, 32, 33, 34, 35, 36, 37, 38, 39, 40, 41, 42, 43, 44, 45, 46, 47, 48, 49, 50, 51, 52, 53, 54, 55, 56, 57] rfl (by decide +kernel)
set_option maxRecDepth 20000 in
theorem gX6_ahead_X6_isShip : GoodIn wsX6_ahead (wsV RX6 116 RX6 yX6_isShip wsX6_isShip) := goodIn_app (goodIn_of _ (by decide +kernel)) ggX6_ahead_X6_isShip
set_option maxRecDepth 20000 in
theorem ggX6_ahead_X6_in : GoodIn wsX6_ahead wsX6_in := goodIn_r _ [10] rfl (by decide +kernel)
set_option maxRecDepth 20000 in
theorem gX6_ahead_X6_in : GoodIn wsX6_ahead (va_wsS RX6 87 yX6_in wsX6_in) := goodIn_app (goodIn_of _ (by decide +kernel)) ggX6_ahead_X6_in
set_option maxRecDepth 20000 in
theorem ggX6_ahead_X6_distanceOf : GoodIn wsX6_ahead wsX6_distanceOf := goodIn_r _ [14, 15, 16, 17, 18, 19, 20, 21, 5, 22, 23, 24, 25, 26, 27, 28, 29, 30, 31, 32, 33, 34, 35, 36, 37, 38, 39, 40, 41, 42, 43, 44, 45, 46, 47, 48, 49, 50, 51, 52, 53, 54, 55, 56, 57] rfl (by decide +kernel)
set_option maxRecDepth 20000 in
theorem gX6_ahead_X6_distanceOf : GoodIn wsX6_ahead (wsV RX6 177 RX6 yX6_distanceOf wsX6_distanceOf) := goodIn_app (goodIn_of _ (by decide +kernel)) ggX6_ahead_X6_distanceOf
theorem dX6_ahead_0 : decode cX6_ahead 0 = .ok (.aload_n 0, 1) := by decide +kernel
theorem dX6_ahead_1 : decode cX6_ahead 1 = .ok (.iload_n 1, 1) := by decide +kernel
theorem dX6_ahead_2 : decode cX6_ahead 2 = .ok (.invokevirtual 116, 3) := by decide +kernel
theorem dX6_ahead_5 : decode cX6_ahead 5 = .ok (.ifCond .eq 26, 3) := by decide +kernel
theorem dX6_ahead_8 : decode cX6_ahead 8 = .ok (.aload_n 0, 1) := by decide +kernel
theorem dX6_ahead_9 : decode cX6_ahead 9 = .ok (.iload_n 2, 1) := by decide +kernel
theorem dX6_ahead_10 : decode cX6_ahead 10 = .ok (.invokevirtual 116, 3) := by decide +kernel
theorem dX6_ahead_13 : decode cX6_ahead 13 = .ok (.ifCond .eq 18, 3) := by decide +kernel
theorem dX6_ahead_16 : decode cX6_ahead 16 = .ok (.iload_n 1, 1) := by decide +kernel
theorem dX6_ahead_17 : decode cX6_ahead 17 = .ok (.iload_n 2, 1) := by decide +kernel
theorem dX6_ahead_18 : decode cX6_ahead 18 = .ok (.if_icmp .eq 13, 3) := by decide +kernel
theorem dX6_ahead_21 : decode cX6_ahead 21 = .ok (.iload_n 3, 1) := by decide +kernel
theorem dX6_ahead_22 : decode cX6_ahead 22 = .ok (.iconst 0, 1) := by decide +kernel
theorem dX6_ahead_23 : decode cX6_ahead 23 = .ok (.ldc 152, 2) := by decide +kernel
theorem dX6_ahead_25 : decode cX6_ahead 25 = .ok (.invokestatic 87, 3) := by decide +kernel
theorem dX6_ahead_28 : decode cX6_ahead 28 = .ok (.ifCond .ne 5, 3) := by decide +kernel
theorem dX6_ahead_31 : decode cX6_ahead 31 = .ok (.iconst (-1), 1) := by decide +kernel
theorem dX6_ahead_32 : decode cX6_ahead 32 = .ok (.ireturn, 1) := by decide +kernel
theorem dX6_ahead_33 : decode cX6_ahead 33 = .ok (.aload_n 0, 1) := by decide +kernel
theorem dX6_ahead_34 : decode cX6_ahead 34 = .ok (.iload_n 1, 1) := by decide +kernel
theorem dX6_ahead_35 : decode cX6_ahead 35 = .ok (.iload_n 3, 1) := by decide +kernel
theorem dX6_ahead_36 : decode cX6_ahead 36 = .ok (.iconst 0, 1) := by decide +kernel
theorem dX6_ahead_37 : decode cX6_ahead 37 = .ok (.invokevirtual 177, 3) := by decide +kernel
theorem dX6_ahead_40 : decode cX6_ahead 40 = .ok (.istore 4, 2) := by decide +kernel
theorem dX6_ahead_42 : decode cX6_ahead 42 = .ok (.aload_n 0, 1) := by decide +kernel
theorem dX6_ahead_43 : decode cX6_ahead 43 = .ok (.iload_n 2, 1) := by decide +kernel
theorem dX6_ahead_44 : decode cX6_ahead 44 = .ok (.iload_n 3, 1) := by decide +kernel
theorem dX6_ahead_45 : decode cX6_ahead 45 = .ok (.iconst 0, 1) := by decide +kernel
theorem dX6_ahead_46 : decode cX6_ahead 46 = .ok (.invokevirtual 177, 3) := by decide +kernel
theorem dX6_ahead_49 : decode cX6_ahead 49 = .ok (.istore 5, 2) := by decide +kernel
theorem dX6_ahead_51 : decode cX6_ahead 51 = .ok (.iload 4, 2) := by decide +kernel
theorem dX6_ahead_53 : decode cX6_ahead 53 = .ok (.bipush (-9), 2) := by decide +kernel
theorem dX6_ahead_55 : decode cX6_ahead 55 = .ok (.if_icmp .eq 10, 3) := by decide +kernel
theorem dX6_ahead_58 : decode cX6_ahead 58 = .ok (.iload 5, 2) := by decide +kernel
theorem dX6_ahead_60 : decode cX6_ahead 60 = .ok (.bipush (-9), 2) := by decide +kernel
theorem dX6_ahead_62 : decode cX6_ahead 62 = .ok (.if_icmp .ne 6, 3) := by decide +kernel
theorem dX6_ahead_65 : decode cX6_ahead 65 = .ok (.bipush (-9), 2) := by decide +kernel
theorem dX6_ahead_67 : decode cX6_ahead 67 = .ok (.ireturn, 1) := by decide +kernel
theorem dX6_ahead_68 : decode cX6_ahead 68 = .ok (.aload_n 0, 1) := by decide +kernel
theorem dX6_ahead_69 : decode cX6_ahead 69 = .ok (.iload_n 1, 1) := by decide +kernel
theorem dX6_ahead_70 : decode cX6_ahead 70 = .ok (.iload_n 3, 1) := by decide +kernel
theorem dX6_ahead_71 : decode cX6_ahead 71 = .ok (.iconst 1, 1) := by decide +kernel
theorem dX6_ahead_72 : decode cX6_ahead 72 = .ok (.invokevirtual 177, 3) := by decide +kernel
theorem dX6_ahead_75 : decode cX6_ahead 75 = .ok (.iload 5, 2) := by decide +kernel
theorem dX6_ahead_77 : decode cX6_ahead 77 = .ok (.if_icmp .ge 7, 3) := by decide +kernel
theorem dX6_ahead_80 : decode cX6_ahead 80 = .ok (.iconst 0, 1) := by decide +kernel
theorem dX6_ahead_81 : decode cX6_ahead 81 = .ok (.goto 20, 3) := by decide +kernel
theorem dX6_ahead_84 : decode cX6_ahead 84 = .ok (.aload_n 0, 1) := by decide +kernel
theorem dX6_ahead_85 : decode cX6_ahead 85 = .ok (.iload_n 2, 1) := by decide +kernel
theorem dX6_ahead_86 : decode cX6_ahead 86 = .ok (.iload_n 3, 1) := by decide +kernel
theorem dX6_ahead_87 : decode cX6_ahead 87 = .ok (.iconst 1, 1) := by decide +kernel
theorem dX6_ahead_88 : decode cX6_ahead 88 = .ok (.invokevirtual 177, 3) := by decide +kernel
theorem dX6_ahead_91 : decode cX6_ahead 91 = .ok (.iload 4, 2) := by decide +kernel
theorem dX6_ahead_93 : decode cX6_ahead 93 = .ok (.if_icmp .ge 7, 3) := by decide +kernel
theorem dX6_ahead_96 : decode cX6_ahead 96 = .ok (.iconst 1, 1) := by decide +kernel
theorem dX6_ahead_97 : decode cX6_ahead 97 = .ok (.goto 4, 3) := by decide +kernel
theorem dX6_ahead_100 : decode cX6_ahead 100 = .ok (.iconst 2, 1) := by decide +kernel
theorem dX6_ahead_101 : decode cX6_ahead 101 = .ok (.ireturn, 1) := by decide +kernel
set_option maxRecDepth 20000 in
theorem ggX6_charter_X6_isShip : GoodIn wsX6_charter wsX6_isShip := goodIn_r _ [8, 9, 10, 11, 7, 12, 13, 14, 15, 16, 17, 18, 19, 20, 21, 22, 23, 24, 25, 26, 27, 28, 29, 30, 31, 32, 33, 34, 35, 36, 37, 38, 39, 40, 41, 42, 43] rfl (by decide +kernel)
set_option maxRecDepth 20000 in
theorem gX6_charter_X6_isShip : GoodIn wsX6_charter (wsV RX6 116 RX6 yX6_isShip wsX6_isShip) := goodIn_app (goodIn_of _ (by decide +kernel)) ggX6_charter_X6_isShip
set_option maxRecDepth 20000 in
theorem ggX6_charter_X6_in : GoodIn wsX6_charter wsX6_in := goodIn_r _ [12] rfl (by decide +kernel)
set_option maxRecDepth 20000 in
theorem gX6_charter_X6_in : GoodIn wsX6_charter (va_wsS RX6 87 yX6_in wsX6_in) := goodIn_app (goodIn_of _ (by decide +kernel)) ggX6_charter_X6_in
theorem dX6_charter_0 : decode cX6_charter 0 = .ok (.aload_n 0, 1) := by decide +kernel
theorem dX6_charter_1 : decode cX6_charter 1 = .ok (.iload_n 1, 1) := by decide +kernel
theorem dX6_charter_2 : decode cX6_charter 2 = .ok (.invokevirtual 116, 3) := by decide +kernel
theorem dX6_charter_5 : decode cX6_charter 5 = .ok (.ifCond .eq 24, 3) := by decide +kernel
theorem dX6_charter_8 : decode cX6_charter 8 = .ok (.iload_n 2, 1) := by decide +kernel
theorem dX6_charter_9 : decode cX6_charter 9 = .ok (.iconst 0, 1) := by decide +kernel
theorem dX6_charter_10 : decode cX6_charter 10 = .ok (.sipush 1000, 3) := by decide +kernel
theorem dX6_charter_13 : decode cX6_charter 13 = .ok (.invokestatic 87, 3) := by decide +kernel
theorem dX6_charter_16 : decode cX6_charter 16 = .ok (.ifCond .eq 13, 3) := by decide +kernel
theorem dX6_charter_19 : decode cX6_charter 19 = .ok (.iload_n 3, 1) := by decide +kernel
theorem dX6_charter_20 : decode cX6_charter 20 = .ok (.iconst 0, 1) := by decide +kernel
theorem dX6_charter_21 : decode cX6_charter 21 = .ok (.ldc 152, 2) := by decide +kernel
theorem dX6_charter_23 : decode cX6_charter 23 = .ok (.invokestatic 87, 3) := by decide +kernel
theorem dX6_charter_26 : decode cX6_charter 26 = .ok (.ifCond .ne 5, 3) := by decide +kernel
theorem dX6_charter_29 : decode cX6_charter 29 = .ok (.iconst (-1), 1) := by decide +kernel
theorem dX6_charter_30 : decode cX6_charter 30 = .ok (.ireturn, 1) := by decide +kernel
theorem dX6_charter_31 : decode cX6_charter 31 = .ok (.aload_n 0, 1) := by decide +kernel
theorem dX6_charter_32 : decode cX6_charter 32 = .ok (.getfield 56, 3) := by decide +kernel
theorem dX6_charter_35 : decode cX6_charter 35 = .ok (.iload_n 1, 1) := by decide +kernel
theorem dX6_charter_36 : decode cX6_charter 36 = .ok (.iload_n 2, 1) := by decide +kernel
theorem dX6_charter_37 : decode cX6_charter 37 = .ok (.iastore, 1) := by decide +kernel
theorem dX6_charter_38 : decode cX6_charter 38 = .ok (.aload_n 0, 1) := by decide +kernel
theorem dX6_charter_39 : decode cX6_charter 39 = .ok (.getfield 59, 3) := by decide +kernel
theorem dX6_charter_42 : decode cX6_charter 42 = .ok (.iload_n 1, 1) := by decide +kernel
theorem dX6_charter_43 : decode cX6_charter 43 = .ok (.iload_n 3, 1) := by decide +kernel
theorem dX6_charter_44 : decode cX6_charter 44 = .ok (.iastore, 1) := by decide +kernel
theorem dX6_charter_45 : decode cX6_charter 45 = .ok (.iconst 1, 1) := by decide +kernel
theorem dX6_charter_46 : decode cX6_charter 46 = .ok (.ireturn, 1) := by decide +kernel
set_option maxRecDepth 20000 in
theorem ggX6_freight_X6_isShip : GoodIn wsX6_freight wsX6_isShip := goodIn_r _ [9, 10, 11, 12, 8, 13, 23, 24, 25, 26, 27, 28, 29, 30, 31, 32, 33, 34, 35, 36, 37, 38, 39, 40, 41, 42, 43, 44, 45, 46, 47, 48, 49, 50, 51, 52, 53] rfl (by decide +kernel)
set_option maxRecDepth 20000 in
theorem gX6_freight_X6_isShip : GoodIn wsX6_freight (wsV RX6 116 RX6 yX6_isShip wsX6_isShip) := goodIn_app (goodIn_of _ (by decide +kernel)) ggX6_freight_X6_isShip
set_option maxRecDepth 20000 in
theorem ggX6_freight_X6_firstShip : GoodIn wsX6_freight wsX6_firstShip := goodIn_r _ [17, 10, 1, 18, 19, 20, 8, 21, 22, 23, 24, 25, 26, 27, 28, 29, 30, 31, 32, 33, 34, 35, 36, 37, 38, 39, 40, 41, 42, 43, 44, 45, 46, 47, 48, 49, 50, 51, 52, 53] rfl (by decide +kernel)
set_option maxRecDepth 20000 in
theorem gX6_freight_X6_firstShip : GoodIn wsX6_freight (wsV RX6 160 RX6 yX6_firstShip wsX6_firstShip) := goodIn_app (goodIn_of _ (by decide +kernel)) ggX6_freight_X6_firstShip
theorem dX6_freight_0 : decode cX6_freight 0 = .ok (.aload_n 0, 1) := by decide +kernel
theorem dX6_freight_1 : decode cX6_freight 1 = .ok (.iload_n 1, 1) := by decide +kernel
theorem dX6_freight_2 : decode cX6_freight 2 = .ok (.invokevirtual 116, 3) := by decide +kernel
theorem dX6_freight_5 : decode cX6_freight 5 = .ok (.ifCond .ne 5, 3) := by decide +kernel
theorem dX6_freight_8 : decode cX6_freight 8 = .ok (.iconst (-1), 1) := by decide +kernel
theorem dX6_freight_9 : decode cX6_freight 9 = .ok (.ireturn, 1) := by decide +kernel
theorem dX6_freight_10 : decode cX6_freight 10 = .ok (.aload_n 0, 1) := by decide +kernel
theorem dX6_freight_11 : decode cX6_freight 11 = .ok (.getfield 38, 3) := by decide +kernel
theorem dX6_freight_14 : decode cX6_freight 14 = .ok (.iload_n 1, 1) := by decide +kernel
theorem dX6_freight_15 : decode cX6_freight 15 = .ok (.iaload, 1) := by decide +kernel
theorem dX6_freight_16 : decode cX6_freight 16 = .ok (.bipush (-9), 2) := by decide +kernel
theorem dX6_freight_18 : decode cX6_freight 18 = .ok (.if_icmp .ne 6, 3) := by decide +kernel
theorem dX6_freight_21 : decode cX6_freight 21 = .ok (.bipush (-4), 2) := by decide +kernel
theorem dX6_freight_23 : decode cX6_freight 23 = .ok (.ireturn, 1) := by decide +kernel
theorem dX6_freight_24 : decode cX6_freight 24 = .ok (.aload_n 0, 1) := by decide +kernel
theorem dX6_freight_25 : decode cX6_freight 25 = .ok (.getfield 41, 3) := by decide +kernel
theorem dX6_freight_28 : decode cX6_freight 28 = .ok (.iload_n 1, 1) := by decide +kernel
theorem dX6_freight_29 : decode cX6_freight 29 = .ok (.iaload, 1) := by decide +kernel
theorem dX6_freight_30 : decode cX6_freight 30 = .ok (.aload_n 0, 1) := by decide +kernel
theorem dX6_freight_31 : decode cX6_freight 31 = .ok (.getfield 56, 3) := by decide +kernel
theorem dX6_freight_34 : decode cX6_freight 34 = .ok (.iload_n 1, 1) := by decide +kernel
theorem dX6_freight_35 : decode cX6_freight 35 = .ok (.iaload, 1) := by decide +kernel
theorem dX6_freight_36 : decode cX6_freight 36 = .ok (.imul, 1) := by decide +kernel
theorem dX6_freight_37 : decode cX6_freight 37 = .ok (.aload_n 0, 1) := by decide +kernel
theorem dX6_freight_38 : decode cX6_freight 38 = .ok (.invokevirtual 160, 3) := by decide +kernel
theorem dX6_freight_41 : decode cX6_freight 41 = .ok (.iload_n 1, 1) := by decide +kernel
theorem dX6_freight_42 : decode cX6_freight 42 = .ok (.if_icmp .ne 12, 3) := by decide +kernel
theorem dX6_freight_45 : decode cX6_freight 45 = .ok (.aload_n 0, 1) := by decide +kernel
theorem dX6_freight_46 : decode cX6_freight 46 = .ok (.getfield 59, 3) := by decide +kernel
theorem dX6_freight_49 : decode cX6_freight 49 = .ok (.iload_n 1, 1) := by decide +kernel
theorem dX6_freight_50 : decode cX6_freight 50 = .ok (.iaload, 1) := by decide +kernel
theorem dX6_freight_51 : decode cX6_freight 51 = .ok (.goto 4, 3) := by decide +kernel
theorem dX6_freight_54 : decode cX6_freight 54 = .ok (.iconst 0, 1) := by decide +kernel
theorem dX6_freight_55 : decode cX6_freight 55 = .ok (.iadd, 1) := by decide +kernel
theorem dX6_freight_56 : decode cX6_freight 56 = .ok (.ireturn, 1) := by decide +kernel
set_option maxRecDepth 20000 in
theorem ggX6_market_X6_in : GoodIn wsX6_market wsX6_in := goodIn_r _ [6] rfl (by decide +kernel)
set_option maxRecDepth 20000 in
theorem gX6_market_X6_in : GoodIn wsX6_market (va_wsS RX6 87 yX6_in wsX6_in) := goodIn_app (goodIn_of _ (by decide +kernel)) ggX6_market_X6_in
theorem dX6_market_0 : decode cX6_market 0 = .ok (.iload_n 1, 1) := by decide +kernel
theorem dX6_market_1 : decode cX6_market 1 = .ok (.iconst 1, 1) := by decide +kernel
theorem dX6_market_2 : decode cX6_market 2 = .ok (.sipush 10000, 3) := by decide +kernel
theorem dX6_market_5 : decode cX6_market 5 = .ok (.invokestatic 87, 3) := by decide +kernel
theorem dX6_market_8 : decode cX6_market 8 = .ok (.ifCond .eq 14, 3) := by decide +kernel
theorem dX6_market_11 : decode cX6_market 11 = .ok (.iload_n 2, 1) := by decide +kernel
theorem dX6_market_12 : decode cX6_market 12 = .ok (.iconst 0, 1) := by decide +kernel
theorem dX6_market_13 : decode cX6_market 13 = .ok (.sipush 1000, 3) := by decide +kernel
theorem dX6_market_16 : decode cX6_market 16 = .ok (.invokestatic 87, 3) := by decide +kernel
theorem dX6_market_19 : decode cX6_market 19 = .ok (.ifCond .ne 5, 3) := by decide +kernel
theorem dX6_market_22 : decode cX6_market 22 = .ok (.iconst (-1), 1) := by decide +kernel
theorem dX6_market_23 : decode cX6_market 23 = .ok (.ireturn, 1) := by decide +kernel
theorem dX6_market_24 : decode cX6_market 24 = .ok (.aload_n 0, 1) := by decide +kernel
theorem dX6_market_25 : decode cX6_market 25 = .ok (.iload_n 1, 1) := by decide +kernel
theorem dX6_market_26 : decode cX6_market 26 = .ok (.putfield 77, 3) := by decide +kernel
theorem dX6_market_29 : decode cX6_market 29 = .ok (.aload_n 0, 1) := by decide +kernel
theorem dX6_market_30 : decode cX6_market 30 = .ok (.iload_n 2, 1) := by decide +kernel
theorem dX6_market_31 : decode cX6_market 31 = .ok (.putfield 81, 3) := by decide +kernel
theorem dX6_market_34 : decode cX6_market 34 = .ok (.iconst 1, 1) := by decide +kernel
theorem dX6_market_35 : decode cX6_market 35 = .ok (.ireturn, 1) := by decide +kernel
set_option maxRecDepth 20000 in
theorem ggX6_priceFor_X6_entryOf : GoodIn wsX6_priceFor wsX6_entryOf := goodIn_r _ [10, 2, 11, 12, 13, 14, 15, 16, 17, 18, 19, 20, 21, 22, 23, 24, 25, 26, 27, 28, 29, 30, 31, 32, 33, 34, 35, 36, 37, 38, 39, 40, 41, 42] rfl (by decide +kernel)
set_option maxRecDepth 20000 in
theorem gX6_priceFor_X6_entryOf : GoodIn wsX6_priceFor (wsV RX6 122 RX6 yX6_entryOf wsX6_entryOf) := goodIn_app (goodIn_of _ (by decide +kernel)) ggX6_priceFor_X6_entryOf
theorem dX6_priceFor_0 : decode cX6_priceFor 0 = .ok (.iconst 0, 1) := by decide +kernel
theorem dX6_priceFor_1 : decode cX6_priceFor 1 = .ok (.istore_n 2, 1) := by decide +kernel
theorem dX6_priceFor_2 : decode cX6_priceFor 2 = .ok (.iconst 0, 1) := by decide +kernel
theorem dX6_priceFor_3 : decode cX6_priceFor 3 = .ok (.istore_n 3, 1) := by decide +kernel
theorem dX6_priceFor_4 : decode cX6_priceFor 4 = .ok (.iload_n 3, 1) := by decide +kernel
theorem dX6_priceFor_5 : decode cX6_priceFor 5 = .ok (.aload_n 0, 1) := by decide +kernel
theorem dX6_priceFor_6 : decode cX6_priceFor 6 = .ok (.getfield 110, 3) := by decide +kernel
theorem dX6_priceFor_9 : decode cX6_priceFor 9 = .ok (.if_icmp .ge 76, 3) := by decide +kernel
theorem dX6_priceFor_12 : decode cX6_priceFor 12 = .ok (.aload_n 0, 1) := by decide +kernel
theorem dX6_priceFor_13 : decode cX6_priceFor 13 = .ok (.getfield 38, 3) := by decide +kernel
theorem dX6_priceFor_16 : decode cX6_priceFor 16 = .ok (.iload_n 3, 1) := by decide +kernel
theorem dX6_priceFor_17 : decode cX6_priceFor 17 = .ok (.iaload, 1) := by decide +kernel
theorem dX6_priceFor_18 : decode cX6_priceFor 18 = .ok (.bipush (-9), 2) := by decide +kernel
theorem dX6_priceFor_20 : decode cX6_priceFor 20 = .ok (.if_icmp .eq 38, 3) := by decide +kernel
theorem dX6_priceFor_23 : decode cX6_priceFor 23 = .ok (.aload_n 0, 1) := by decide +kernel
theorem dX6_priceFor_24 : decode cX6_priceFor 24 = .ok (.iload_n 3, 1) := by decide +kernel
theorem dX6_priceFor_25 : decode cX6_priceFor 25 = .ok (.invokevirtual 122, 3) := by decide +kernel
theorem dX6_priceFor_28 : decode cX6_priceFor 28 = .ok (.aload_n 0, 1) := by decide +kernel
theorem dX6_priceFor_29 : decode cX6_priceFor 29 = .ok (.iload_n 1, 1) := by decide +kernel
theorem dX6_priceFor_30 : decode cX6_priceFor 30 = .ok (.invokevirtual 122, 3) := by decide +kernel
theorem dX6_priceFor_33 : decode cX6_priceFor 33 = .ok (.if_icmp .lt 21, 3) := by decide +kernel
theorem dX6_priceFor_36 : decode cX6_priceFor 36 = .ok (.aload_n 0, 1) := by decide +kernel
theorem dX6_priceFor_37 : decode cX6_priceFor 37 = .ok (.iload_n 3, 1) := by decide +kernel
theorem dX6_priceFor_38 : decode cX6_priceFor 38 = .ok (.invokevirtual 122, 3) := by decide +kernel
theorem dX6_priceFor_41 : decode cX6_priceFor 41 = .ok (.aload_n 0, 1) := by decide +kernel
theorem dX6_priceFor_42 : decode cX6_priceFor 42 = .ok (.iload_n 1, 1) := by decide +kernel
theorem dX6_priceFor_43 : decode cX6_priceFor 43 = .ok (.invokevirtual 122, 3) := by decide +kernel
theorem dX6_priceFor_46 : decode cX6_priceFor 46 = .ok (.if_icmp .ne 12, 3) := by decide +kernel
theorem dX6_priceFor_49 : decode cX6_priceFor 49 = .ok (.iload_n 3, 1) := by decide +kernel
theorem dX6_priceFor_50 : decode cX6_priceFor 50 = .ok (.iload_n 1, 1) := by decide +kernel
theorem dX6_priceFor_51 : decode cX6_priceFor 51 = .ok (.if_icmp .ge 7, 3) := by decide +kernel
theorem dX6_priceFor_54 : decode cX6_priceFor 54 = .ok (.iconst 1, 1) := by decide +kernel
theorem dX6_priceFor_55 : decode cX6_priceFor 55 = .ok (.goto 4, 3) := by decide +kernel
theorem dX6_priceFor_58 : decode cX6_priceFor 58 = .ok (.iconst 0, 1) := by decide +kernel
theorem dX6_priceFor_59 : decode cX6_priceFor 59 = .ok (.istore 4, 2) := by decide +kernel
theorem dX6_priceFor_61 : decode cX6_priceFor 61 = .ok (.iload_n 2, 1) := by decide +kernel
theorem dX6_priceFor_62 : decode cX6_priceFor 62 = .ok (.iload 4, 2) := by decide +kernel
theorem dX6_priceFor_64 : decode cX6_priceFor 64 = .ok (.ifCond .eq 12, 3) := by decide +kernel
theorem dX6_priceFor_67 : decode cX6_priceFor 67 = .ok (.aload_n 0, 1) := by decide +kernel
theorem dX6_priceFor_68 : decode cX6_priceFor 68 = .ok (.getfield 41, 3) := by decide +kernel
theorem dX6_priceFor_71 : decode cX6_priceFor 71 = .ok (.iload_n 3, 1) := by decide +kernel
