theorem dX6_tells_58 : decode cX6_tells 58 = .ok (.iload_n 1, 1) := by decide +kernel
theorem dX6_tells_59 : decode cX6_tells 59 = .ok (.iaload, 1) := by decide +kernel
theorem dX6_tells_60 : decode cX6_tells 60 = .ok (.ireturn, 1) := by decide +kernel
theorem dX6_tells_61 : decode cX6_tells 61 = .ok (.aload_n 0, 1) := by decide +kernel
theorem dX6_tells_62 : decode cX6_tells 62 = .ok (.getfield 35, 3) := by decide +kernel
theorem dX6_tells_65 : decode cX6_tells 65 = .ok (.iload_n 1, 1) := by decide +kernel
theorem dX6_tells_66 : decode cX6_tells 66 = .ok (.iaload, 1) := by decide +kernel
theorem dX6_tells_67 : decode cX6_tells 67 = .ok (.ireturn, 1) := by decide +kernel
theorem dX6_tells_68 : decode cX6_tells 68 = .ok (.aload_n 0, 1) := by decide +kernel
theorem dX6_tells_69 : decode cX6_tells 69 = .ok (.getfield 38, 3) := by decide +kernel
theorem dX6_tells_72 : decode cX6_tells 72 = .ok (.iload_n 1, 1) := by decide +kernel
theorem dX6_tells_73 : decode cX6_tells 73 = .ok (.iaload, 1) := by decide +kernel
theorem dX6_tells_74 : decode cX6_tells 74 = .ok (.ireturn, 1) := by decide +kernel
theorem dX6_tells_75 : decode cX6_tells 75 = .ok (.aload_n 0, 1) := by decide +kernel
theorem dX6_tells_76 : decode cX6_tells 76 = .ok (.iload_n 1, 1) := by decide +kernel
theorem dX6_tells_77 : decode cX6_tells 77 = .ok (.invokevirtual 122, 3) := by decide +kernel
theorem dX6_tells_80 : decode cX6_tells 80 = .ok (.ireturn, 1) := by decide +kernel
theorem dX6_tells_81 : decode cX6_tells 81 = .ok (.aload_n 0, 1) := by decide +kernel
theorem dX6_tells_82 : decode cX6_tells 82 = .ok (.getfield 41, 3) := by decide +kernel
theorem dX6_tells_85 : decode cX6_tells 85 = .ok (.iload_n 1, 1) := by decide +kernel
theorem dX6_tells_86 : decode cX6_tells 86 = .ok (.iaload, 1) := by decide +kernel
theorem dX6_tells_87 : decode cX6_tells 87 = .ok (.ireturn, 1) := by decide +kernel
set_option maxRecDepth 20000 in
theorem ggX6_told_X6_isShip : GoodIn wsX6_told wsX6_isShip := goodIn_r _ [5, 6, 7, 8, 4, 9, 25, 26, 27, 28, 29, 30, 31, 32, 33, 34, 35, 36, 37, 38, 39, 40, 41, 42, 43, 44, 45, 46, 47, 48, 49, 50, 51, 52, 53, 54, 55] rfl (by decide +kernel)
set_option maxRecDepth 20000 in
theorem gX6_told_X6_isShip : GoodIn wsX6_told (wsV RX6 116 RX6 yX6_isShip wsX6_isShip) := goodIn_app (goodIn_of _ (by decide +kernel)) ggX6_told_X6_isShip
set_option maxRecDepth 20000 in
theorem ggX6_told_X6_in : GoodIn wsX6_told wsX6_in := goodIn_r _ [9] rfl (by decide +kernel)
set_option maxRecDepth 20000 in
theorem gX6_told_X6_in : GoodIn wsX6_told (va_wsS RX6 87 yX6_in wsX6_in) := goodIn_app (goodIn_of _ (by decide +kernel)) ggX6_told_X6_in
set_option maxRecDepth 20000 in
theorem ggX6_told_X6_tells : GoodIn wsX6_told wsX6_tells := goodIn_r _ [13, 14, 15, 16, 17, 18, 19, 20, 21, 22, 4, 23, 24, 25, 26, 27, 28, 29, 30, 31, 32, 33, 34, 35, 36, 37, 38, 39, 40, 41, 42, 43, 44, 45, 46, 47, 48, 49, 50, 51, 52, 53, 54, 55] rfl (by decide +kernel)
set_option maxRecDepth 20000 in
theorem gX6_told_X6_tells : GoodIn wsX6_told (wsV RX6 125 RX6 yX6_tells wsX6_tells) := goodIn_app (goodIn_of _ (by decide +kernel)) ggX6_told_X6_tells
theorem dX6_told_0 : decode cX6_told 0 = .ok (.aload_n 0, 1) := by decide +kernel
theorem dX6_told_1 : decode cX6_told 1 = .ok (.iload_n 1, 1) := by decide +kernel
theorem dX6_told_2 : decode cX6_told 2 = .ok (.invokevirtual 116, 3) := by decide +kernel
theorem dX6_told_5 : decode cX6_told 5 = .ok (.ifCond .eq 22, 3) := by decide +kernel
theorem dX6_told_8 : decode cX6_told 8 = .ok (.iload_n 2, 1) := by decide +kernel
theorem dX6_told_9 : decode cX6_told 9 = .ok (.iconst 0, 1) := by decide +kernel
theorem dX6_told_10 : decode cX6_told 10 = .ok (.bipush 6, 2) := by decide +kernel
theorem dX6_told_12 : decode cX6_told 12 = .ok (.invokestatic 87, 3) := by decide +kernel
theorem dX6_told_15 : decode cX6_told 15 = .ok (.ifCond .eq 12, 3) := by decide +kernel
theorem dX6_told_18 : decode cX6_told 18 = .ok (.aload_n 0, 1) := by decide +kernel
theorem dX6_told_19 : decode cX6_told 19 = .ok (.iload_n 1, 1) := by decide +kernel
theorem dX6_told_20 : decode cX6_told 20 = .ok (.iload_n 2, 1) := by decide +kernel
theorem dX6_told_21 : decode cX6_told 21 = .ok (.invokevirtual 125, 3) := by decide +kernel
theorem dX6_told_24 : decode cX6_told 24 = .ok (.goto 4, 3) := by decide +kernel
theorem dX6_told_27 : decode cX6_told 27 = .ok (.iconst (-1), 1) := by decide +kernel
theorem dX6_told_28 : decode cX6_told 28 = .ok (.ireturn, 1) := by decide +kernel
theorem dX6_speedOf_0 : decode cX6_speedOf 0 = .ok (.iload_n 2, 1) := by decide +kernel
theorem dX6_speedOf_1 : decode cX6_speedOf 1 = .ok (.iload_n 3, 1) := by decide +kernel
theorem dX6_speedOf_2 : decode cX6_speedOf 2 = .ok (.if_icmp .le 9, 3) := by decide +kernel
theorem dX6_speedOf_5 : decode cX6_speedOf 5 = .ok (.iload_n 2, 1) := by decide +kernel
theorem dX6_speedOf_6 : decode cX6_speedOf 6 = .ok (.iload_n 3, 1) := by decide +kernel
theorem dX6_speedOf_7 : decode cX6_speedOf 7 = .ok (.isub, 1) := by decide +kernel
theorem dX6_speedOf_8 : decode cX6_speedOf 8 = .ok (.goto 6, 3) := by decide +kernel
theorem dX6_speedOf_11 : decode cX6_speedOf 11 = .ok (.iload_n 3, 1) := by decide +kernel
theorem dX6_speedOf_12 : decode cX6_speedOf 12 = .ok (.iload_n 2, 1) := by decide +kernel
theorem dX6_speedOf_13 : decode cX6_speedOf 13 = .ok (.isub, 1) := by decide +kernel
theorem dX6_speedOf_14 : decode cX6_speedOf 14 = .ok (.istore 5, 2) := by decide +kernel
theorem dX6_speedOf_16 : decode cX6_speedOf 16 = .ok (.iload 5, 2) := by decide +kernel
theorem dX6_speedOf_18 : decode cX6_speedOf 18 = .ok (.iconst 4, 1) := by decide +kernel
theorem dX6_speedOf_19 : decode cX6_speedOf 19 = .ok (.if_icmp .le 11, 3) := by decide +kernel
theorem dX6_speedOf_22 : decode cX6_speedOf 22 = .ok (.bipush 8, 2) := by decide +kernel
theorem dX6_speedOf_24 : decode cX6_speedOf 24 = .ok (.iload 5, 2) := by decide +kernel
theorem dX6_speedOf_26 : decode cX6_speedOf 26 = .ok (.isub, 1) := by decide +kernel
theorem dX6_speedOf_27 : decode cX6_speedOf 27 = .ok (.goto 5, 3) := by decide +kernel
theorem dX6_speedOf_30 : decode cX6_speedOf 30 = .ok (.iload 5, 2) := by decide +kernel
theorem dX6_speedOf_32 : decode cX6_speedOf 32 = .ok (.istore 5, 2) := by decide +kernel
theorem dX6_speedOf_34 : decode cX6_speedOf 34 = .ok (.iload 5, 2) := by decide +kernel
theorem dX6_speedOf_36 : decode cX6_speedOf 36 = .ok (.iconst 4, 1) := by decide +kernel
theorem dX6_speedOf_37 : decode cX6_speedOf 37 = .ok (.if_icmp .ne 10, 3) := by decide +kernel
theorem dX6_speedOf_40 : decode cX6_speedOf 40 = .ok (.iconst 2, 1) := by decide +kernel
theorem dX6_speedOf_41 : decode cX6_speedOf 41 = .ok (.iload 4, 2) := by decide +kernel
theorem dX6_speedOf_43 : decode cX6_speedOf 43 = .ok (.imul, 1) := by decide +kernel
theorem dX6_speedOf_44 : decode cX6_speedOf 44 = .ok (.goto 8, 3) := by decide +kernel
theorem dX6_speedOf_47 : decode cX6_speedOf 47 = .ok (.iload 5, 2) := by decide +kernel
theorem dX6_speedOf_49 : decode cX6_speedOf 49 = .ok (.iload 4, 2) := by decide +kernel
theorem dX6_speedOf_51 : decode cX6_speedOf 51 = .ok (.imul, 1) := by decide +kernel
theorem dX6_speedOf_52 : decode cX6_speedOf 52 = .ok (.istore 6, 2) := by decide +kernel
theorem dX6_speedOf_54 : decode cX6_speedOf 54 = .ok (.iload 5, 2) := by decide +kernel
theorem dX6_speedOf_56 : decode cX6_speedOf 56 = .ok (.iconst 2, 1) := by decide +kernel
theorem dX6_speedOf_57 : decode cX6_speedOf 57 = .ok (.if_icmp .eq 9, 3) := by decide +kernel
theorem dX6_speedOf_60 : decode cX6_speedOf 60 = .ok (.iload 5, 2) := by decide +kernel
theorem dX6_speedOf_62 : decode cX6_speedOf 62 = .ok (.iconst 3, 1) := by decide +kernel
theorem dX6_speedOf_63 : decode cX6_speedOf 63 = .ok (.if_icmp .ne 8, 3) := by decide +kernel
theorem dX6_speedOf_66 : decode cX6_speedOf 66 = .ok (.iload 4, 2) := by decide +kernel
theorem dX6_speedOf_68 : decode cX6_speedOf 68 = .ok (.goto 4, 3) := by decide +kernel
theorem dX6_speedOf_71 : decode cX6_speedOf 71 = .ok (.iconst 0, 1) := by decide +kernel
theorem dX6_speedOf_72 : decode cX6_speedOf 72 = .ok (.istore 7, 2) := by decide +kernel
theorem dX6_speedOf_74 : decode cX6_speedOf 74 = .ok (.iload 6, 2) := by decide +kernel
theorem dX6_speedOf_76 : decode cX6_speedOf 76 = .ok (.aload_n 0, 1) := by decide +kernel
theorem dX6_speedOf_77 : decode cX6_speedOf 77 = .ok (.getfield 26, 3) := by decide +kernel
theorem dX6_speedOf_80 : decode cX6_speedOf 80 = .ok (.iload_n 1, 1) := by decide +kernel
theorem dX6_speedOf_81 : decode cX6_speedOf 81 = .ok (.iaload, 1) := by decide +kernel
theorem dX6_speedOf_82 : decode cX6_speedOf 82 = .ok (.iconst 1, 1) := by decide +kernel
theorem dX6_speedOf_83 : decode cX6_speedOf 83 = .ok (.if_icmp .ne 8, 3) := by decide +kernel
theorem dX6_speedOf_86 : decode cX6_speedOf 86 = .ok (.iload 7, 2) := by decide +kernel
theorem dX6_speedOf_88 : decode cX6_speedOf 88 = .ok (.goto 21, 3) := by decide +kernel
theorem dX6_speedOf_91 : decode cX6_speedOf 91 = .ok (.aload_n 0, 1) := by decide +kernel
theorem dX6_speedOf_92 : decode cX6_speedOf 92 = .ok (.getfield 26, 3) := by decide +kernel
theorem dX6_speedOf_95 : decode cX6_speedOf 95 = .ok (.iload_n 1, 1) := by decide +kernel
theorem dX6_speedOf_96 : decode cX6_speedOf 96 = .ok (.iaload, 1) := by decide +kernel
theorem dX6_speedOf_97 : decode cX6_speedOf 97 = .ok (.iconst 3, 1) := by decide +kernel
theorem dX6_speedOf_98 : decode cX6_speedOf 98 = .ok (.if_icmp .ne 10, 3) := by decide +kernel
theorem dX6_speedOf_101 : decode cX6_speedOf 101 = .ok (.iconst 2, 1) := by decide +kernel
theorem dX6_speedOf_102 : decode cX6_speedOf 102 = .ok (.iload 7, 2) := by decide +kernel
theorem dX6_speedOf_104 : decode cX6_speedOf 104 = .ok (.imul, 1) := by decide +kernel
theorem dX6_speedOf_105 : decode cX6_speedOf 105 = .ok (.goto 4, 3) := by decide +kernel
theorem dX6_speedOf_108 : decode cX6_speedOf 108 = .ok (.iconst 0, 1) := by decide +kernel
theorem dX6_speedOf_109 : decode cX6_speedOf 109 = .ok (.iadd, 1) := by decide +kernel
theorem dX6_speedOf_110 : decode cX6_speedOf 110 = .ok (.istore 6, 2) := by decide +kernel
theorem dX6_speedOf_112 : decode cX6_speedOf 112 = .ok (.aload_n 0, 1) := by decide +kernel
theorem dX6_speedOf_113 : decode cX6_speedOf 113 = .ok (.getfield 26, 3) := by decide +kernel
theorem dX6_speedOf_116 : decode cX6_speedOf 116 = .ok (.iload_n 1, 1) := by decide +kernel
theorem dX6_speedOf_117 : decode cX6_speedOf 117 = .ok (.iaload, 1) := by decide +kernel
theorem dX6_speedOf_118 : decode cX6_speedOf 118 = .ok (.iconst 2, 1) := by decide +kernel
theorem dX6_speedOf_119 : decode cX6_speedOf 119 = .ok (.if_icmp .ne 8, 3) := by decide +kernel
theorem dX6_speedOf_122 : decode cX6_speedOf 122 = .ok (.bipush 8, 2) := by decide +kernel
theorem dX6_speedOf_124 : decode cX6_speedOf 124 = .ok (.goto 5, 3) := by decide +kernel
theorem dX6_speedOf_127 : decode cX6_speedOf 127 = .ok (.iload 6, 2) := by decide +kernel
theorem dX6_speedOf_129 : decode cX6_speedOf 129 = .ok (.istore 6, 2) := by decide +kernel
theorem dX6_speedOf_131 : decode cX6_speedOf 131 = .ok (.iload 6, 2) := by decide +kernel
theorem dX6_speedOf_133 : decode cX6_speedOf 133 = .ok (.aload_n 0, 1) := by decide +kernel
theorem dX6_speedOf_134 : decode cX6_speedOf 134 = .ok (.getfield 44, 3) := by decide +kernel
theorem dX6_speedOf_137 : decode cX6_speedOf 137 = .ok (.iload_n 1, 1) := by decide +kernel
theorem dX6_speedOf_138 : decode cX6_speedOf 138 = .ok (.iaload, 1) := by decide +kernel
theorem dX6_speedOf_139 : decode cX6_speedOf 139 = .ok (.if_icmp .le 15, 3) := by decide +kernel
theorem dX6_speedOf_142 : decode cX6_speedOf 142 = .ok (.iload 6, 2) := by decide +kernel
theorem dX6_speedOf_144 : decode cX6_speedOf 144 = .ok (.aload_n 0, 1) := by decide +kernel
theorem dX6_speedOf_145 : decode cX6_speedOf 145 = .ok (.getfield 44, 3) := by decide +kernel
theorem dX6_speedOf_148 : decode cX6_speedOf 148 = .ok (.iload_n 1, 1) := by decide +kernel
theorem dX6_speedOf_149 : decode cX6_speedOf 149 = .ok (.iaload, 1) := by decide +kernel
theorem dX6_speedOf_150 : decode cX6_speedOf 150 = .ok (.isub, 1) := by decide +kernel
theorem dX6_speedOf_151 : decode cX6_speedOf 151 = .ok (.goto 4, 3) := by decide +kernel
theorem dX6_speedOf_154 : decode cX6_speedOf 154 = .ok (.iconst 0, 1) := by decide +kernel
theorem dX6_speedOf_155 : decode cX6_speedOf 155 = .ok (.ireturn, 1) := by decide +kernel
set_option maxRecDepth 20000 in
theorem ggX6_mark_X6_isShip : GoodIn wsX6_mark wsX6_isShip := goodIn_r _ [8, 9, 10, 11, 7, 12, 24, 25, 26, 27, 28, 29, 30, 31, 32, 33, 34, 35, 36, 37, 38, 39, 40, 41, 42, 43, 44, 45, 46, 47, 48, 49, 50, 51, 52, 53, 54] rfl (by decide +kernel)
set_option maxRecDepth 20000 in
theorem gX6_mark_X6_isShip : GoodIn wsX6_mark (wsV RX6 116 RX6 yX6_isShip wsX6_isShip) := goodIn_app (goodIn_of _ (by decide +kernel)) ggX6_mark_X6_isShip
set_option maxRecDepth 20000 in
theorem ggX6_mark_X6_in : GoodIn wsX6_mark wsX6_in := goodIn_r _ [12] rfl (by decide +kernel)
set_option maxRecDepth 20000 in
theorem gX6_mark_X6_in : GoodIn wsX6_mark (va_wsS RX6 87 yX6_in wsX6_in) := goodIn_app (goodIn_of _ (by decide +kernel)) ggX6_mark_X6_in
set_option maxRecDepth 20000 in
theorem ggX6_mark_X6_meets : GoodIn wsX6_mark wsX6_meets := goodIn_r _ [16, 17, 18, 24, 25, 26, 27, 28, 29, 30, 31, 32, 33, 34, 35, 36, 37, 38, 39, 40, 41, 42, 43, 44, 45, 46, 47, 48, 49, 50, 51, 52, 53, 54] rfl (by decide +kernel)
set_option maxRecDepth 20000 in
theorem gX6_mark_X6_meets : GoodIn wsX6_mark (wsV RX6 98 RX6 yX6_meets wsX6_meets) := goodIn_app (goodIn_of _ (by decide +kernel)) ggX6_mark_X6_meets
set_option maxRecDepth 20000 in
theorem ggX6_mark_X6_speedOf : GoodIn wsX6_mark wsX6_speedOf := goodIn_r _ [22, 1, 23, 24, 25, 26, 27, 28, 29, 30, 31, 32, 33, 34, 35, 36, 37, 38, 39, 40, 41, 42, 43, 44, 45, 46, 47, 48, 49, 50, 51, 52, 53, 54] rfl (by decide +kernel)
set_option maxRecDepth 20000 in
theorem gX6_mark_X6_speedOf : GoodIn wsX6_mark (wsV RX6 129 RX6 yX6_speedOf wsX6_speedOf) := goodIn_app (goodIn_of _ (by decide +kernel)) ggX6_mark_X6_speedOf
theorem dX6_mark_0 : decode cX6_mark 0 = .ok (.aload_n 0, 1) := by decide +kernel
theorem dX6_mark_1 : decode cX6_mark 1 = .ok (.iload_n 1, 1) := by decide +kernel
theorem dX6_mark_2 : decode cX6_mark 2 = .ok (.invokevirtual 116, 3) := by decide +kernel
theorem dX6_mark_5 : decode cX6_mark 5 = .ok (.ifCond .eq 12, 3) := by decide +kernel
theorem dX6_mark_8 : decode cX6_mark 8 = .ok (.iload_n 2, 1) := by decide +kernel
theorem dX6_mark_9 : decode cX6_mark 9 = .ok (.iconst 1, 1) := by decide +kernel
theorem dX6_mark_10 : decode cX6_mark 10 = .ok (.iconst 3, 1) := by decide +kernel
theorem dX6_mark_11 : decode cX6_mark 11 = .ok (.invokestatic 87, 3) := by decide +kernel
theorem dX6_mark_14 : decode cX6_mark 14 = .ok (.ifCond .ne 5, 3) := by decide +kernel
theorem dX6_mark_17 : decode cX6_mark 17 = .ok (.iconst (-1), 1) := by decide +kernel
theorem dX6_mark_18 : decode cX6_mark 18 = .ok (.ireturn, 1) := by decide +kernel
theorem dX6_mark_19 : decode cX6_mark 19 = .ok (.aload_n 0, 1) := by decide +kernel
theorem dX6_mark_20 : decode cX6_mark 20 = .ok (.getfield 26, 3) := by decide +kernel
theorem dX6_mark_23 : decode cX6_mark 23 = .ok (.iload_n 1, 1) := by decide +kernel
theorem dX6_mark_24 : decode cX6_mark 24 = .ok (.iaload, 1) := by decide +kernel
theorem dX6_mark_25 : decode cX6_mark 25 = .ok (.istore_n 3, 1) := by decide +kernel
theorem dX6_mark_26 : decode cX6_mark 26 = .ok (.iload_n 2, 1) := by decide +kernel
theorem dX6_mark_27 : decode cX6_mark 27 = .ok (.iload_n 3, 1) := by decide +kernel
theorem dX6_mark_28 : decode cX6_mark 28 = .ok (.if_icmp .eq 19, 3) := by decide +kernel
theorem dX6_mark_31 : decode cX6_mark 31 = .ok (.iload_n 2, 1) := by decide +kernel
theorem dX6_mark_32 : decode cX6_mark 32 = .ok (.iconst 1, 1) := by decide +kernel
theorem dX6_mark_33 : decode cX6_mark 33 = .ok (.if_icmp .ne 8, 3) := by decide +kernel
theorem dX6_mark_36 : decode cX6_mark 36 = .ok (.iload_n 3, 1) := by decide +kernel
theorem dX6_mark_37 : decode cX6_mark 37 = .ok (.iconst 3, 1) := by decide +kernel
theorem dX6_mark_38 : decode cX6_mark 38 = .ok (.if_icmp .eq 9, 3) := by decide +kernel
theorem dX6_mark_41 : decode cX6_mark 41 = .ok (.aload_n 0, 1) := by decide +kernel
theorem dX6_mark_42 : decode cX6_mark 42 = .ok (.iconst 3, 1) := by decide +kernel
theorem dX6_mark_43 : decode cX6_mark 43 = .ok (.invokevirtual 98, 3) := by decide +kernel
theorem dX6_mark_46 : decode cX6_mark 46 = .ok (.ireturn, 1) := by decide +kernel
theorem dX6_mark_47 : decode cX6_mark 47 = .ok (.iload_n 2, 1) := by decide +kernel
theorem dX6_mark_48 : decode cX6_mark 48 = .ok (.iconst 1, 1) := by decide +kernel
theorem dX6_mark_49 : decode cX6_mark 49 = .ok (.if_icmp .ne 12, 3) := by decide +kernel
theorem dX6_mark_52 : decode cX6_mark 52 = .ok (.aload_n 0, 1) := by decide +kernel
theorem dX6_mark_53 : decode cX6_mark 53 = .ok (.getfield 50, 3) := by decide +kernel
theorem dX6_mark_56 : decode cX6_mark 56 = .ok (.iload_n 1, 1) := by decide +kernel
theorem dX6_mark_57 : decode cX6_mark 57 = .ok (.iaload, 1) := by decide +kernel
theorem dX6_mark_58 : decode cX6_mark 58 = .ok (.goto 25, 3) := by decide +kernel
theorem dX6_mark_61 : decode cX6_mark 61 = .ok (.iload_n 2, 1) := by decide +kernel
theorem dX6_mark_62 : decode cX6_mark 62 = .ok (.iconst 2, 1) := by decide +kernel
theorem dX6_mark_63 : decode cX6_mark 63 = .ok (.if_icmp .ne 14, 3) := by decide +kernel
theorem dX6_mark_66 : decode cX6_mark 66 = .ok (.aload_n 0, 1) := by decide +kernel
theorem dX6_mark_67 : decode cX6_mark 67 = .ok (.iload_n 1, 1) := by decide +kernel
theorem dX6_mark_68 : decode cX6_mark 68 = .ok (.iconst 0, 1) := by decide +kernel
theorem dX6_mark_69 : decode cX6_mark 69 = .ok (.iconst 0, 1) := by decide +kernel
theorem dX6_mark_70 : decode cX6_mark 70 = .ok (.iconst 0, 1) := by decide +kernel
theorem dX6_mark_71 : decode cX6_mark 71 = .ok (.invokevirtual 129, 3) := by decide +kernel
theorem dX6_mark_74 : decode cX6_mark 74 = .ok (.goto 9, 3) := by decide +kernel
theorem dX6_mark_77 : decode cX6_mark 77 = .ok (.aload_n 0, 1) := by decide +kernel
theorem dX6_mark_78 : decode cX6_mark 78 = .ok (.getfield 47, 3) := by decide +kernel
theorem dX6_mark_81 : decode cX6_mark 81 = .ok (.iload_n 1, 1) := by decide +kernel
theorem dX6_mark_82 : decode cX6_mark 82 = .ok (.iaload, 1) := by decide +kernel
theorem dX6_mark_83 : decode cX6_mark 83 = .ok (.ireturn, 1) := by decide +kernel
set_option maxRecDepth 20000 in
theorem ggX6_isWay_X6_in : GoodIn wsX6_isWay wsX6_in := goodIn_r _ [4] rfl (by decide +kernel)
set_option maxRecDepth 20000 in
theorem gX6_isWay_X6_in : GoodIn wsX6_isWay (va_wsS RX6 87 yX6_in wsX6_in) := goodIn_app (goodIn_of _ (by decide +kernel)) ggX6_isWay_X6_in
theorem dX6_isWay_0 : decode cX6_isWay 0 = .ok (.iload_n 0, 1) := by decide +kernel
theorem dX6_isWay_1 : decode cX6_isWay 1 = .ok (.iconst 0, 1) := by decide +kernel
theorem dX6_isWay_2 : decode cX6_isWay 2 = .ok (.bipush 7, 2) := by decide +kernel
theorem dX6_isWay_4 : decode cX6_isWay 4 = .ok (.invokestatic 87, 3) := by decide +kernel
theorem dX6_isWay_7 : decode cX6_isWay 7 = .ok (.ireturn, 1) := by decide +kernel
set_option maxRecDepth 20000 in
theorem ggX6_speed_X6_isShip : GoodIn wsX6_speed wsX6_isShip := goodIn_r _ [5, 6, 7, 8, 4, 9, 19, 20, 21, 22, 23, 24, 25, 26, 27, 28, 29, 30, 31, 32, 33, 34, 35, 36, 37, 38, 39, 40, 41, 42, 43, 44, 45, 46, 47, 48, 49] rfl (by decide +kernel)
set_option maxRecDepth 20000 in
theorem gX6_speed_X6_isShip : GoodIn wsX6_speed (wsV RX6 116 RX6 yX6_isShip wsX6_isShip) := goodIn_app (goodIn_of _ (by decide +kernel)) ggX6_speed_X6_isShip
set_option maxRecDepth 20000 in
theorem ggX6_speed_X6_isWay : GoodIn wsX6_speed wsX6_isWay := goodIn_r _ [12, 7, 8, 4, 9] rfl (by decide +kernel)
set_option maxRecDepth 20000 in
theorem gX6_speed_X6_isWay : GoodIn wsX6_speed (va_wsS RX6 133 yX6_isWay wsX6_isWay) := goodIn_app (goodIn_of _ (by decide +kernel)) ggX6_speed_X6_isWay
set_option maxRecDepth 20000 in
theorem ggX6_speed_X6_in : GoodIn wsX6_speed wsX6_in := goodIn_r _ [9] rfl (by decide +kernel)
set_option maxRecDepth 20000 in
theorem gX6_speed_X6_in : GoodIn wsX6_speed (va_wsS RX6 87 yX6_in wsX6_in) := goodIn_app (goodIn_of _ (by decide +kernel)) ggX6_speed_X6_in
set_option maxRecDepth 20000 in
theorem ggX6_speed_X6_speedOf : GoodIn wsX6_speed wsX6_speedOf := goodIn_r _ [16, 17, 18, 19, 20, 21, 22, 23, 24, 25, 26, 27, 28, 29, 30, 31, 32, 33, 34, 35, 36, 37, 38, 39, 40, 41, 42, 43, 44, 45, 46, 47, 48, 49] rfl (by decide +kernel)
set_option maxRecDepth 20000 in
theorem gX6_speed_X6_speedOf : GoodIn wsX6_speed (wsV RX6 129 RX6 yX6_speedOf wsX6_speedOf) := goodIn_app (goodIn_of _ (by decide +kernel)) ggX6_speed_X6_speedOf
theorem dX6_speed_0 : decode cX6_speed 0 = .ok (.aload_n 0, 1) := by decide +kernel
theorem dX6_speed_1 : decode cX6_speed 1 = .ok (.iload_n 1, 1) := by decide +kernel
theorem dX6_speed_2 : decode cX6_speed 2 = .ok (.invokevirtual 116, 3) := by decide +kernel
theorem dX6_speed_5 : decode cX6_speed 5 = .ok (.ifCond .eq 40, 3) := by decide +kernel
theorem dX6_speed_8 : decode cX6_speed 8 = .ok (.iload_n 2, 1) := by decide +kernel
theorem dX6_speed_9 : decode cX6_speed 9 = .ok (.invokestatic 133, 3) := by decide +kernel
theorem dX6_speed_12 : decode cX6_speed 12 = .ok (.ifCond .eq 33, 3) := by decide +kernel
theorem dX6_speed_15 : decode cX6_speed 15 = .ok (.iload_n 3, 1) := by decide +kernel
theorem dX6_speed_16 : decode cX6_speed 16 = .ok (.invokestatic 133, 3) := by decide +kernel
theorem dX6_speed_19 : decode cX6_speed 19 = .ok (.ifCond .eq 26, 3) := by decide +kernel
theorem dX6_speed_22 : decode cX6_speed 22 = .ok (.iload 4, 2) := by decide +kernel
theorem dX6_speed_24 : decode cX6_speed 24 = .ok (.iconst 0, 1) := by decide +kernel
theorem dX6_speed_25 : decode cX6_speed 25 = .ok (.bipush 9, 2) := by decide +kernel
theorem dX6_speed_27 : decode cX6_speed 27 = .ok (.invokestatic 87, 3) := by decide +kernel
theorem dX6_speed_30 : decode cX6_speed 30 = .ok (.ifCond .eq 15, 3) := by decide +kernel
theorem dX6_speed_33 : decode cX6_speed 33 = .ok (.aload_n 0, 1) := by decide +kernel
theorem dX6_speed_34 : decode cX6_speed 34 = .ok (.iload_n 1, 1) := by decide +kernel
theorem dX6_speed_35 : decode cX6_speed 35 = .ok (.iload_n 2, 1) := by decide +kernel
theorem dX6_speed_36 : decode cX6_speed 36 = .ok (.iload_n 3, 1) := by decide +kernel
theorem dX6_speed_37 : decode cX6_speed 37 = .ok (.iload 4, 2) := by decide +kernel
theorem dX6_speed_39 : decode cX6_speed 39 = .ok (.invokevirtual 129, 3) := by decide +kernel
theorem dX6_speed_42 : decode cX6_speed 42 = .ok (.goto 4, 3) := by decide +kernel
theorem dX6_speed_45 : decode cX6_speed 45 = .ok (.iconst (-1), 1) := by decide +kernel
theorem dX6_speed_46 : decode cX6_speed 46 = .ok (.ireturn, 1) := by decide +kernel
set_option maxRecDepth 20000 in
theorem ggX6_order_X6_isShip : GoodIn wsX6_order wsX6_isShip := goodIn_r _ [7, 8, 9, 10, 6, 11, 15, 16, 17, 18, 19, 20, 21, 22, 23, 24, 25, 26, 27, 28, 29, 30, 31, 32, 33, 34, 35, 36, 37, 38, 39, 40, 41, 42, 43, 44, 45] rfl (by decide +kernel)
set_option maxRecDepth 20000 in
theorem gX6_order_X6_isShip : GoodIn wsX6_order (wsV RX6 116 RX6 yX6_isShip wsX6_isShip) := goodIn_app (goodIn_of _ (by decide +kernel)) ggX6_order_X6_isShip
set_option maxRecDepth 20000 in
theorem ggX6_order_X6_in : GoodIn wsX6_order wsX6_in := goodIn_r _ [11] rfl (by decide +kernel)
set_option maxRecDepth 20000 in
theorem gX6_order_X6_in : GoodIn wsX6_order (va_wsS RX6 87 yX6_in wsX6_in) := goodIn_app (goodIn_of _ (by decide +kernel)) ggX6_order_X6_in
set_option maxRecDepth 20000 in
theorem ggX6_order_X6_isWay : GoodIn wsX6_order wsX6_isWay := goodIn_r _ [14, 9, 10, 6, 11] rfl (by decide +kernel)
set_option maxRecDepth 20000 in
theorem gX6_order_X6_isWay : GoodIn wsX6_order (va_wsS RX6 133 yX6_isWay wsX6_isWay) := goodIn_app (goodIn_of _ (by decide +kernel)) ggX6_order_X6_isWay
theorem dX6_order_0 : decode cX6_order 0 = .ok (.aload_n 0, 1) := by decide +kernel
theorem dX6_order_1 : decode cX6_order 1 = .ok (.iload_n 1, 1) := by decide +kernel
theorem dX6_order_2 : decode cX6_order 2 = .ok (.invokevirtual 116, 3) := by decide +kernel
theorem dX6_order_5 : decode cX6_order 5 = .ok (.ifCond .eq 65, 3) := by decide +kernel
theorem dX6_order_8 : decode cX6_order 8 = .ok (.iload_n 2, 1) := by decide +kernel
theorem dX6_order_9 : decode cX6_order 9 = .ok (.iconst 0, 1) := by decide +kernel
theorem dX6_order_10 : decode cX6_order 10 = .ok (.bipush 15, 2) := by decide +kernel
theorem dX6_order_12 : decode cX6_order 12 = .ok (.invokestatic 87, 3) := by decide +kernel
theorem dX6_order_15 : decode cX6_order 15 = .ok (.ifCond .eq 55, 3) := by decide +kernel
theorem dX6_order_18 : decode cX6_order 18 = .ok (.iload_n 3, 1) := by decide +kernel
theorem dX6_order_19 : decode cX6_order 19 = .ok (.iload_n 2, 1) := by decide +kernel
theorem dX6_order_20 : decode cX6_order 20 = .ok (.bipush 15, 2) := by decide +kernel
theorem dX6_order_22 : decode cX6_order 22 = .ok (.invokestatic 87, 3) := by decide +kernel
theorem dX6_order_25 : decode cX6_order 25 = .ok (.ifCond .eq 45, 3) := by decide +kernel
theorem dX6_order_28 : decode cX6_order 28 = .ok (.iload 4, 2) := by decide +kernel
theorem dX6_order_30 : decode cX6_order 30 = .ok (.iconst 0, 1) := by decide +kernel
theorem dX6_order_31 : decode cX6_order 31 = .ok (.bipush 9, 2) := by decide +kernel
theorem dX6_order_33 : decode cX6_order 33 = .ok (.invokestatic 87, 3) := by decide +kernel
theorem dX6_order_36 : decode cX6_order 36 = .ok (.ifCond .eq 34, 3) := by decide +kernel
theorem dX6_order_39 : decode cX6_order 39 = .ok (.iload 5, 2) := by decide +kernel
theorem dX6_order_41 : decode cX6_order 41 = .ok (.iload 4, 2) := by decide +kernel
theorem dX6_order_43 : decode cX6_order 43 = .ok (.bipush 9, 2) := by decide +kernel
theorem dX6_order_45 : decode cX6_order 45 = .ok (.invokestatic 87, 3) := by decide +kernel
theorem dX6_order_48 : decode cX6_order 48 = .ok (.ifCond .eq 22, 3) := by decide +kernel
theorem dX6_order_51 : decode cX6_order 51 = .ok (.iload 6, 2) := by decide +kernel
theorem dX6_order_53 : decode cX6_order 53 = .ok (.iconst 0, 1) := by decide +kernel
theorem dX6_order_54 : decode cX6_order 54 = .ok (.bipush 9, 2) := by decide +kernel
theorem dX6_order_56 : decode cX6_order 56 = .ok (.invokestatic 87, 3) := by decide +kernel
theorem dX6_order_59 : decode cX6_order 59 = .ok (.ifCond .eq 11, 3) := by decide +kernel
theorem dX6_order_62 : decode cX6_order 62 = .ok (.iload 7, 2) := by decide +kernel
theorem dX6_order_64 : decode cX6_order 64 = .ok (.invokestatic 133, 3) := by decide +kernel
theorem dX6_order_67 : decode cX6_order 67 = .ok (.ifCond .ne 5, 3) := by decide +kernel
theorem dX6_order_70 : decode cX6_order 70 = .ok (.iconst (-1), 1) := by decide +kernel
theorem dX6_order_71 : decode cX6_order 71 = .ok (.ireturn, 1) := by decide +kernel
theorem dX6_order_72 : decode cX6_order 72 = .ok (.aload_n 0, 1) := by decide +kernel
theorem dX6_order_73 : decode cX6_order 73 = .ok (.getfield 50, 3) := by decide +kernel
theorem dX6_order_76 : decode cX6_order 76 = .ok (.iload_n 1, 1) := by decide +kernel
theorem dX6_order_77 : decode cX6_order 77 = .ok (.iaload, 1) := by decide +kernel
theorem dX6_order_78 : decode cX6_order 78 = .ok (.bipush 20, 2) := by decide +kernel
theorem dX6_order_80 : decode cX6_order 80 = .ok (.if_icmp .ne 6, 3) := by decide +kernel
theorem dX6_order_83 : decode cX6_order 83 = .ok (.bipush (-2), 2) := by decide +kernel
theorem dX6_order_85 : decode cX6_order 85 = .ok (.ireturn, 1) := by decide +kernel
theorem dX6_order_86 : decode cX6_order 86 = .ok (.bipush 120, 2) := by decide +kernel
theorem dX6_order_88 : decode cX6_order 88 = .ok (.iload_n 1, 1) := by decide +kernel
theorem dX6_order_89 : decode cX6_order 89 = .ok (.imul, 1) := by decide +kernel
theorem dX6_order_90 : decode cX6_order 90 = .ok (.bipush 6, 2) := by decide +kernel
theorem dX6_order_92 : decode cX6_order 92 = .ok (.aload_n 0, 1) := by decide +kernel
theorem dX6_order_93 : decode cX6_order 93 = .ok (.getfield 50, 3) := by decide +kernel
theorem dX6_order_96 : decode cX6_order 96 = .ok (.iload_n 1, 1) := by decide +kernel
theorem dX6_order_97 : decode cX6_order 97 = .ok (.iaload, 1) := by decide +kernel
theorem dX6_order_98 : decode cX6_order 98 = .ok (.imul, 1) := by decide +kernel
theorem dX6_order_99 : decode cX6_order 99 = .ok (.iadd, 1) := by decide +kernel
theorem dX6_order_100 : decode cX6_order 100 = .ok (.istore 8, 2) := by decide +kernel
theorem dX6_order_102 : decode cX6_order 102 = .ok (.aload_n 0, 1) := by decide +kernel
theorem dX6_order_103 : decode cX6_order 103 = .ok (.getfield 53, 3) := by decide +kernel
theorem dX6_order_106 : decode cX6_order 106 = .ok (.iload 8, 2) := by decide +kernel
theorem dX6_order_108 : decode cX6_order 108 = .ok (.iload_n 2, 1) := by decide +kernel
theorem dX6_order_109 : decode cX6_order 109 = .ok (.iastore, 1) := by decide +kernel
theorem dX6_order_110 : decode cX6_order 110 = .ok (.aload_n 0, 1) := by decide +kernel
theorem dX6_order_111 : decode cX6_order 111 = .ok (.getfield 53, 3) := by decide +kernel
theorem dX6_order_114 : decode cX6_order 114 = .ok (.iload 8, 2) := by decide +kernel
theorem dX6_order_116 : decode cX6_order 116 = .ok (.iconst 1, 1) := by decide +kernel
theorem dX6_order_117 : decode cX6_order 117 = .ok (.iadd, 1) := by decide +kernel
theorem dX6_order_118 : decode cX6_order 118 = .ok (.iload_n 3, 1) := by decide +kernel
theorem dX6_order_119 : decode cX6_order 119 = .ok (.iastore, 1) := by decide +kernel
theorem dX6_order_120 : decode cX6_order 120 = .ok (.aload_n 0, 1) := by decide +kernel
theorem dX6_order_121 : decode cX6_order 121 = .ok (.getfield 53, 3) := by decide +kernel
theorem dX6_order_124 : decode cX6_order 124 = .ok (.iload 8, 2) := by decide +kernel
theorem dX6_order_126 : decode cX6_order 126 = .ok (.iconst 2, 1) := by decide +kernel
theorem dX6_order_127 : decode cX6_order 127 = .ok (.iadd, 1) := by decide +kernel
theorem dX6_order_128 : decode cX6_order 128 = .ok (.iload 4, 2) := by decide +kernel
theorem dX6_order_130 : decode cX6_order 130 = .ok (.iastore, 1) := by decide +kernel
theorem dX6_order_131 : decode cX6_order 131 = .ok (.aload_n 0, 1) := by decide +kernel
theorem dX6_order_132 : decode cX6_order 132 = .ok (.getfield 53, 3) := by decide +kernel
theorem dX6_order_135 : decode cX6_order 135 = .ok (.iload 8, 2) := by decide +kernel
theorem dX6_order_137 : decode cX6_order 137 = .ok (.iconst 3, 1) := by decide +kernel
theorem dX6_order_138 : decode cX6_order 138 = .ok (.iadd, 1) := by decide +kernel
theorem dX6_order_139 : decode cX6_order 139 = .ok (.iload 5, 2) := by decide +kernel
theorem dX6_order_141 : decode cX6_order 141 = .ok (.iastore, 1) := by decide +kernel
theorem dX6_order_142 : decode cX6_order 142 = .ok (.aload_n 0, 1) := by decide +kernel
theorem dX6_order_143 : decode cX6_order 143 = .ok (.getfield 53, 3) := by decide +kernel
theorem dX6_order_146 : decode cX6_order 146 = .ok (.iload 8, 2) := by decide +kernel
theorem dX6_order_148 : decode cX6_order 148 = .ok (.iconst 4, 1) := by decide +kernel
theorem dX6_order_149 : decode cX6_order 149 = .ok (.iadd, 1) := by decide +kernel
theorem dX6_order_150 : decode cX6_order 150 = .ok (.iload 6, 2) := by decide +kernel
theorem dX6_order_152 : decode cX6_order 152 = .ok (.iastore, 1) := by decide +kernel
theorem dX6_order_153 : decode cX6_order 153 = .ok (.aload_n 0, 1) := by decide +kernel
theorem dX6_order_154 : decode cX6_order 154 = .ok (.getfield 53, 3) := by decide +kernel
theorem dX6_order_157 : decode cX6_order 157 = .ok (.iload 8, 2) := by decide +kernel
theorem dX6_order_159 : decode cX6_order 159 = .ok (.iconst 5, 1) := by decide +kernel
theorem dX6_order_160 : decode cX6_order 160 = .ok (.iadd, 1) := by decide +kernel
theorem dX6_order_161 : decode cX6_order 161 = .ok (.iload 7, 2) := by decide +kernel
theorem dX6_order_163 : decode cX6_order 163 = .ok (.iastore, 1) := by decide +kernel
theorem dX6_order_164 : decode cX6_order 164 = .ok (.aload_n 0, 1) := by decide +kernel
theorem dX6_order_165 : decode cX6_order 165 = .ok (.getfield 50, 3) := by decide +kernel
theorem dX6_order_168 : decode cX6_order 168 = .ok (.iload_n 1, 1) := by decide +kernel
theorem dX6_order_169 : decode cX6_order 169 = .ok (.dup2, 1) := by decide +kernel
theorem dX6_order_170 : decode cX6_order 170 = .ok (.iaload, 1) := by decide +kernel
theorem dX6_order_171 : decode cX6_order 171 = .ok (.iconst 1, 1) := by decide +kernel
theorem dX6_order_172 : decode cX6_order 172 = .ok (.iadd, 1) := by decide +kernel
theorem dX6_order_173 : decode cX6_order 173 = .ok (.iastore, 1) := by decide +kernel
theorem dX6_order_174 : decode cX6_order 174 = .ok (.aload_n 0, 1) := by decide +kernel
theorem dX6_order_175 : decode cX6_order 175 = .ok (.getfield 50, 3) := by decide +kernel
theorem dX6_order_178 : decode cX6_order 178 = .ok (.iload_n 1, 1) := by decide +kernel
theorem dX6_order_179 : decode cX6_order 179 = .ok (.iaload, 1) := by decide +kernel
theorem dX6_order_180 : decode cX6_order 180 = .ok (.ireturn, 1) := by decide +kernel
set_option maxRecDepth 20000 in
theorem ggX6_home_X6_isCell : GoodIn wsX6_home wsX6_isCell := goodIn_r _ [8, 9, 10, 7, 11] rfl (by decide +kernel)
set_option maxRecDepth 20000 in
theorem gX6_home_X6_isCell : GoodIn wsX6_home (va_wsS RX6 91 yX6_isCell wsX6_isCell) := goodIn_app (goodIn_of _ (by decide +kernel)) ggX6_home_X6_isCell
set_option maxRecDepth 20000 in
theorem ggX6_home_X6_in : GoodIn wsX6_home wsX6_in := goodIn_r _ [11] rfl (by decide +kernel)
set_option maxRecDepth 20000 in
theorem gX6_home_X6_in : GoodIn wsX6_home (va_wsS RX6 87 yX6_in wsX6_in) := goodIn_app (goodIn_of _ (by decide +kernel)) ggX6_home_X6_in
theorem dX6_home_0 : decode cX6_home 0 = .ok (.iload_n 1, 1) := by decide +kernel
theorem dX6_home_1 : decode cX6_home 1 = .ok (.invokestatic 91, 3) := by decide +kernel
theorem dX6_home_4 : decode cX6_home 4 = .ok (.ifCond .eq 22, 3) := by decide +kernel
theorem dX6_home_7 : decode cX6_home 7 = .ok (.aload_n 0, 1) := by decide +kernel
theorem dX6_home_8 : decode cX6_home 8 = .ok (.getfield 13, 3) := by decide +kernel
theorem dX6_home_11 : decode cX6_home 11 = .ok (.iload_n 1, 1) := by decide +kernel
theorem dX6_home_12 : decode cX6_home 12 = .ok (.baload, 1) := by decide +kernel
theorem dX6_home_13 : decode cX6_home 13 = .ok (.ifCond .ne 13, 3) := by decide +kernel
theorem dX6_home_16 : decode cX6_home 16 = .ok (.iload_n 2, 1) := by decide +kernel
theorem dX6_home_17 : decode cX6_home 17 = .ok (.iconst 0, 1) := by decide +kernel
theorem dX6_home_18 : decode cX6_home 18 = .ok (.bipush 23, 2) := by decide +kernel
theorem dX6_home_20 : decode cX6_home 20 = .ok (.invokestatic 87, 3) := by decide +kernel
theorem dX6_home_23 : decode cX6_home 23 = .ok (.ifCond .ne 5, 3) := by decide +kernel
theorem dX6_home_26 : decode cX6_home 26 = .ok (.iconst (-1), 1) := by decide +kernel
theorem dX6_home_27 : decode cX6_home 27 = .ok (.ireturn, 1) := by decide +kernel
theorem dX6_home_28 : decode cX6_home 28 = .ok (.aload_n 0, 1) := by decide +kernel
theorem dX6_home_29 : decode cX6_home 29 = .ok (.getfield 113, 3) := by decide +kernel
theorem dX6_home_32 : decode cX6_home 32 = .ok (.ifCond .eq 6, 3) := by decide +kernel
theorem dX6_home_35 : decode cX6_home 35 = .ok (.bipush (-4), 2) := by decide +kernel
theorem dX6_home_37 : decode cX6_home 37 = .ok (.ireturn, 1) := by decide +kernel
theorem dX6_home_38 : decode cX6_home 38 = .ok (.aload_n 0, 1) := by decide +kernel
theorem dX6_home_39 : decode cX6_home 39 = .ok (.iload_n 1, 1) := by decide +kernel
theorem dX6_home_40 : decode cX6_home 40 = .ok (.putfield 136, 3) := by decide +kernel
theorem dX6_home_43 : decode cX6_home 43 = .ok (.aload_n 0, 1) := by decide +kernel
theorem dX6_home_44 : decode cX6_home 44 = .ok (.iload_n 2, 1) := by decide +kernel
theorem dX6_home_45 : decode cX6_home 45 = .ok (.putfield 119, 3) := by decide +kernel
theorem dX6_home_48 : decode cX6_home 48 = .ok (.iconst 1, 1) := by decide +kernel
theorem dX6_home_49 : decode cX6_home 49 = .ok (.ireturn, 1) := by decide +kernel
set_option maxRecDepth 20000 in
theorem ggX6_ask_X6_windAt : GoodIn wsX6_ask wsX6_windAt := goodIn_r _ [10, 11, 12, 13, 14, 9, 15, 16, 17, 18, 19, 20, 21, 22, 23, 24, 25, 26, 27, 28, 29, 30, 31, 32, 33, 34, 35, 36, 37, 38, 39, 40, 41, 42, 43, 44, 45, 46] rfl (by decide +kernel)
set_option maxRecDepth 20000 in
theorem gX6_ask_X6_windAt : GoodIn wsX6_ask (wsV RX6 139 RX6 yX6_windAt wsX6_windAt) := goodIn_app (goodIn_of _ (by decide +kernel)) ggX6_ask_X6_windAt
set_option maxRecDepth 20000 in
theorem ggX6_ask_X6_in : GoodIn wsX6_ask wsX6_in := goodIn_r _ [15] rfl (by decide +kernel)
set_option maxRecDepth 20000 in
theorem gX6_ask_X6_in : GoodIn wsX6_ask (va_wsS RX6 87 yX6_in wsX6_in) := goodIn_app (goodIn_of _ (by decide +kernel)) ggX6_ask_X6_in
theorem dX6_ask_0 : decode cX6_ask 0 = .ok (.aload_n 0, 1) := by decide +kernel
theorem dX6_ask_1 : decode cX6_ask 1 = .ok (.aload_n 0, 1) := by decide +kernel
theorem dX6_ask_2 : decode cX6_ask 2 = .ok (.getfield 29, 3) := by decide +kernel
theorem dX6_ask_5 : decode cX6_ask 5 = .ok (.iload_n 1, 1) := by decide +kernel
theorem dX6_ask_6 : decode cX6_ask 6 = .ok (.iaload, 1) := by decide +kernel
theorem dX6_ask_7 : decode cX6_ask 7 = .ok (.aload_n 0, 1) := by decide +kernel
theorem dX6_ask_8 : decode cX6_ask 8 = .ok (.getfield 113, 3) := by decide +kernel
theorem dX6_ask_11 : decode cX6_ask 11 = .ok (.invokevirtual 139, 3) := by decide +kernel
theorem dX6_ask_14 : decode cX6_ask 14 = .ok (.bipush 10, 2) := by decide +kernel
theorem dX6_ask_16 : decode cX6_ask 16 = .ok (.irem, 1) := by decide +kernel
theorem dX6_ask_17 : decode cX6_ask 17 = .ok (.istore_n 2, 1) := by decide +kernel
theorem dX6_ask_18 : decode cX6_ask 18 = .ok (.iconst 0, 1) := by decide +kernel
theorem dX6_ask_19 : decode cX6_ask 19 = .ok (.istore_n 3, 1) := by decide +kernel
theorem dX6_ask_20 : decode cX6_ask 20 = .ok (.iload_n 3, 1) := by decide +kernel
theorem dX6_ask_21 : decode cX6_ask 21 = .ok (.aload_n 0, 1) := by decide +kernel
theorem dX6_ask_22 : decode cX6_ask 22 = .ok (.getfield 50, 3) := by decide +kernel
theorem dX6_ask_25 : decode cX6_ask 25 = .ok (.iload_n 1, 1) := by decide +kernel
theorem dX6_ask_26 : decode cX6_ask 26 = .ok (.iaload, 1) := by decide +kernel
theorem dX6_ask_27 : decode cX6_ask 27 = .ok (.if_icmp .ge 113, 3) := by decide +kernel
theorem dX6_ask_30 : decode cX6_ask 30 = .ok (.bipush 120, 2) := by decide +kernel
theorem dX6_ask_32 : decode cX6_ask 32 = .ok (.iload_n 1, 1) := by decide +kernel
theorem dX6_ask_33 : decode cX6_ask 33 = .ok (.imul, 1) := by decide +kernel
theorem dX6_ask_34 : decode cX6_ask 34 = .ok (.bipush 6, 2) := by decide +kernel
theorem dX6_ask_36 : decode cX6_ask 36 = .ok (.iload_n 3, 1) := by decide +kernel
theorem dX6_ask_37 : decode cX6_ask 37 = .ok (.imul, 1) := by decide +kernel
theorem dX6_ask_38 : decode cX6_ask 38 = .ok (.iadd, 1) := by decide +kernel
theorem dX6_ask_39 : decode cX6_ask 39 = .ok (.istore 4, 2) := by decide +kernel
theorem dX6_ask_41 : decode cX6_ask 41 = .ok (.aload_n 0, 1) := by decide +kernel
theorem dX6_ask_42 : decode cX6_ask 42 = .ok (.getfield 29, 3) := by decide +kernel
theorem dX6_ask_45 : decode cX6_ask 45 = .ok (.iload_n 1, 1) := by decide +kernel
theorem dX6_ask_46 : decode cX6_ask 46 = .ok (.iaload, 1) := by decide +kernel
theorem dX6_ask_47 : decode cX6_ask 47 = .ok (.bipush 16, 2) := by decide +kernel
theorem dX6_ask_49 : decode cX6_ask 49 = .ok (.irem, 1) := by decide +kernel
theorem dX6_ask_50 : decode cX6_ask 50 = .ok (.aload_n 0, 1) := by decide +kernel
theorem dX6_ask_51 : decode cX6_ask 51 = .ok (.getfield 53, 3) := by decide +kernel
theorem dX6_ask_54 : decode cX6_ask 54 = .ok (.iload 4, 2) := by decide +kernel
theorem dX6_ask_56 : decode cX6_ask 56 = .ok (.iaload, 1) := by decide +kernel
theorem dX6_ask_57 : decode cX6_ask 57 = .ok (.aload_n 0, 1) := by decide +kernel
theorem dX6_ask_58 : decode cX6_ask 58 = .ok (.getfield 53, 3) := by decide +kernel
theorem dX6_ask_61 : decode cX6_ask 61 = .ok (.iload 4, 2) := by decide +kernel
theorem dX6_ask_63 : decode cX6_ask 63 = .ok (.iconst 1, 1) := by decide +kernel
theorem dX6_ask_64 : decode cX6_ask 64 = .ok (.iadd, 1) := by decide +kernel
theorem dX6_ask_65 : decode cX6_ask 65 = .ok (.iaload, 1) := by decide +kernel
theorem dX6_ask_66 : decode cX6_ask 66 = .ok (.invokestatic 87, 3) := by decide +kernel
theorem dX6_ask_69 : decode cX6_ask 69 = .ok (.ifCond .eq 65, 3) := by decide +kernel
theorem dX6_ask_72 : decode cX6_ask 72 = .ok (.aload_n 0, 1) := by decide +kernel
theorem dX6_ask_73 : decode cX6_ask 73 = .ok (.getfield 29, 3) := by decide +kernel
theorem dX6_ask_76 : decode cX6_ask 76 = .ok (.iload_n 1, 1) := by decide +kernel
theorem dX6_ask_77 : decode cX6_ask 77 = .ok (.iaload, 1) := by decide +kernel
theorem dX6_ask_78 : decode cX6_ask 78 = .ok (.bipush 16, 2) := by decide +kernel
theorem dX6_ask_80 : decode cX6_ask 80 = .ok (.idiv, 1) := by decide +kernel
theorem dX6_ask_81 : decode cX6_ask 81 = .ok (.aload_n 0, 1) := by decide +kernel
theorem dX6_ask_82 : decode cX6_ask 82 = .ok (.getfield 53, 3) := by decide +kernel
theorem dX6_ask_85 : decode cX6_ask 85 = .ok (.iload 4, 2) := by decide +kernel
theorem dX6_ask_87 : decode cX6_ask 87 = .ok (.iconst 2, 1) := by decide +kernel
theorem dX6_ask_88 : decode cX6_ask 88 = .ok (.iadd, 1) := by decide +kernel
theorem dX6_ask_89 : decode cX6_ask 89 = .ok (.iaload, 1) := by decide +kernel
theorem dX6_ask_90 : decode cX6_ask 90 = .ok (.aload_n 0, 1) := by decide +kernel
theorem dX6_ask_91 : decode cX6_ask 91 = .ok (.getfield 53, 3) := by decide +kernel
theorem dX6_ask_94 : decode cX6_ask 94 = .ok (.iload 4, 2) := by decide +kernel
theorem dX6_ask_96 : decode cX6_ask 96 = .ok (.iconst 3, 1) := by decide +kernel
theorem dX6_ask_97 : decode cX6_ask 97 = .ok (.iadd, 1) := by decide +kernel
theorem dX6_ask_98 : decode cX6_ask 98 = .ok (.iaload, 1) := by decide +kernel
theorem dX6_ask_99 : decode cX6_ask 99 = .ok (.invokestatic 87, 3) := by decide +kernel
theorem dX6_ask_102 : decode cX6_ask 102 = .ok (.ifCond .eq 32, 3) := by decide +kernel
theorem dX6_ask_105 : decode cX6_ask 105 = .ok (.iload_n 2, 1) := by decide +kernel
theorem dX6_ask_106 : decode cX6_ask 106 = .ok (.aload_n 0, 1) := by decide +kernel
theorem dX6_ask_107 : decode cX6_ask 107 = .ok (.getfield 53, 3) := by decide +kernel
theorem dX6_ask_110 : decode cX6_ask 110 = .ok (.iload 4, 2) := by decide +kernel
theorem dX6_ask_112 : decode cX6_ask 112 = .ok (.iconst 4, 1) := by decide +kernel
theorem dX6_ask_113 : decode cX6_ask 113 = .ok (.iadd, 1) := by decide +kernel
theorem dX6_ask_114 : decode cX6_ask 114 = .ok (.iaload, 1) := by decide +kernel
theorem dX6_ask_115 : decode cX6_ask 115 = .ok (.if_icmp .lt 19, 3) := by decide +kernel
theorem dX6_ask_118 : decode cX6_ask 118 = .ok (.aload_n 0, 1) := by decide +kernel
theorem dX6_ask_119 : decode cX6_ask 119 = .ok (.getfield 35, 3) := by decide +kernel
theorem dX6_ask_122 : decode cX6_ask 122 = .ok (.iload_n 1, 1) := by decide +kernel
theorem dX6_ask_123 : decode cX6_ask 123 = .ok (.aload_n 0, 1) := by decide +kernel
theorem dX6_ask_124 : decode cX6_ask 124 = .ok (.getfield 53, 3) := by decide +kernel
theorem dX6_ask_127 : decode cX6_ask 127 = .ok (.iload 4, 2) := by decide +kernel
theorem dX6_ask_129 : decode cX6_ask 129 = .ok (.iconst 5, 1) := by decide +kernel
theorem dX6_ask_130 : decode cX6_ask 130 = .ok (.iadd, 1) := by decide +kernel
theorem dX6_ask_131 : decode cX6_ask 131 = .ok (.iaload, 1) := by decide +kernel
theorem dX6_ask_132 : decode cX6_ask 132 = .ok (.iastore, 1) := by decide +kernel
