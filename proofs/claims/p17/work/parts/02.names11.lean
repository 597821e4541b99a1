theorem dX6_ask_133 : decode cX6_ask 133 = .ok (.return_, 1) := by decide +kernel
theorem dX6_ask_134 : decode cX6_ask 134 = .ok (.iinc 3 1, 3) := by decide +kernel
theorem dX6_ask_137 : decode cX6_ask 137 = .ok (.goto (-117), 3) := by decide +kernel
theorem dX6_ask_140 : decode cX6_ask 140 = .ok (.return_, 1) := by decide +kernel
set_option maxRecDepth 20000 in
theorem ggX6_go_X6_ask : GoodIn wsX6_go wsX6_ask := goodIn_r _ [12, 1, 2, 13, 14, 4, 15, 16, 17, 11, 18, 19, 20, 21, 22, 23, 38, 39, 40, 41, 42, 43, 44, 45, 46, 47, 48, 49, 50, 51, 52, 53, 54, 55, 56, 57, 58, 59, 60, 61, 62, 63, 64, 65, 66, 67, 68] rfl (by decide +kernel)
set_option maxRecDepth 20000 in
theorem gX6_go_X6_ask : GoodIn wsX6_go (wsV RX6 142 RX6 yX6_ask wsX6_ask) := goodIn_app (goodIn_of _ (by decide +kernel)) ggX6_go_X6_ask
set_option maxRecDepth 20000 in
theorem ggX6_go_X6_windAt : GoodIn wsX6_go wsX6_windAt := goodIn_r _ [18, 19, 20, 21, 22, 11, 23, 38, 39, 40, 41, 42, 43, 44, 45, 46, 47, 48, 49, 50, 51, 52, 53, 54, 55, 56, 57, 58, 59, 60, 61, 62, 63, 64, 65, 66, 67, 68] rfl (by decide +kernel)
set_option maxRecDepth 20000 in
theorem gX6_go_X6_windAt : GoodIn wsX6_go (wsV RX6 139 RX6 yX6_windAt wsX6_windAt) := goodIn_app (goodIn_of _ (by decide +kernel)) ggX6_go_X6_windAt
set_option maxRecDepth 20000 in
theorem ggX6_go_X6_speedOf : GoodIn wsX6_go wsX6_speedOf := goodIn_r _ [27, 28, 29, 38, 39, 40, 41, 42, 43, 44, 45, 46, 47, 48, 49, 50, 51, 52, 53, 54, 55, 56, 57, 58, 59, 60, 61, 62, 63, 64, 65, 66, 67, 68] rfl (by decide +kernel)
set_option maxRecDepth 20000 in
theorem gX6_go_X6_speedOf : GoodIn wsX6_go (wsV RX6 129 RX6 yX6_speedOf wsX6_speedOf) := goodIn_app (goodIn_of _ (by decide +kernel)) ggX6_go_X6_speedOf
set_option maxRecDepth 20000 in
theorem ggX6_go_X6_need : GoodIn wsX6_go wsX6_need := goodIn_r _ [32] rfl (by decide +kernel)
set_option maxRecDepth 20000 in
theorem gX6_go_X6_need : GoodIn wsX6_go (va_wsS RX6 146 yX6_need wsX6_need) := goodIn_app (goodIn_of _ (by decide +kernel)) ggX6_go_X6_need
set_option maxRecDepth 20000 in
theorem ggX6_go_X6_nextCell : GoodIn wsX6_go wsX6_nextCell := goodIn_r _ [36, 37, 21, 22, 11, 23, 38, 39, 40, 41, 42, 43, 44, 45, 46, 47, 48, 49, 50, 51, 52, 53, 54, 55, 56, 57, 58, 59, 60, 61, 62, 63, 64, 65, 66, 67, 68] rfl (by decide +kernel)
set_option maxRecDepth 20000 in
theorem gX6_go_X6_nextCell : GoodIn wsX6_go (wsV RX6 149 RX6 yX6_nextCell wsX6_nextCell) := goodIn_app (goodIn_of _ (by decide +kernel)) ggX6_go_X6_nextCell
theorem dX6_go_0 : decode cX6_go 0 = .ok (.aload_n 0, 1) := by decide +kernel
theorem dX6_go_1 : decode cX6_go 1 = .ok (.iload_n 1, 1) := by decide +kernel
theorem dX6_go_2 : decode cX6_go 2 = .ok (.invokevirtual 142, 3) := by decide +kernel
theorem dX6_go_5 : decode cX6_go 5 = .ok (.aload_n 0, 1) := by decide +kernel
theorem dX6_go_6 : decode cX6_go 6 = .ok (.aload_n 0, 1) := by decide +kernel
theorem dX6_go_7 : decode cX6_go 7 = .ok (.getfield 29, 3) := by decide +kernel
theorem dX6_go_10 : decode cX6_go 10 = .ok (.iload_n 1, 1) := by decide +kernel
theorem dX6_go_11 : decode cX6_go 11 = .ok (.iaload, 1) := by decide +kernel
theorem dX6_go_12 : decode cX6_go 12 = .ok (.aload_n 0, 1) := by decide +kernel
theorem dX6_go_13 : decode cX6_go 13 = .ok (.getfield 113, 3) := by decide +kernel
theorem dX6_go_16 : decode cX6_go 16 = .ok (.invokevirtual 139, 3) := by decide +kernel
theorem dX6_go_19 : decode cX6_go 19 = .ok (.istore_n 2, 1) := by decide +kernel
theorem dX6_go_20 : decode cX6_go 20 = .ok (.aload_n 0, 1) := by decide +kernel
theorem dX6_go_21 : decode cX6_go 21 = .ok (.getfield 32, 3) := by decide +kernel
theorem dX6_go_24 : decode cX6_go 24 = .ok (.iload_n 1, 1) := by decide +kernel
theorem dX6_go_25 : decode cX6_go 25 = .ok (.dup2, 1) := by decide +kernel
theorem dX6_go_26 : decode cX6_go 26 = .ok (.iaload, 1) := by decide +kernel
theorem dX6_go_27 : decode cX6_go 27 = .ok (.aload_n 0, 1) := by decide +kernel
theorem dX6_go_28 : decode cX6_go 28 = .ok (.iload_n 1, 1) := by decide +kernel
theorem dX6_go_29 : decode cX6_go 29 = .ok (.aload_n 0, 1) := by decide +kernel
theorem dX6_go_30 : decode cX6_go 30 = .ok (.getfield 35, 3) := by decide +kernel
theorem dX6_go_33 : decode cX6_go 33 = .ok (.iload_n 1, 1) := by decide +kernel
theorem dX6_go_34 : decode cX6_go 34 = .ok (.iaload, 1) := by decide +kernel
theorem dX6_go_35 : decode cX6_go 35 = .ok (.iload_n 2, 1) := by decide +kernel
theorem dX6_go_36 : decode cX6_go 36 = .ok (.bipush 10, 2) := by decide +kernel
theorem dX6_go_38 : decode cX6_go 38 = .ok (.idiv, 1) := by decide +kernel
theorem dX6_go_39 : decode cX6_go 39 = .ok (.iload_n 2, 1) := by decide +kernel
theorem dX6_go_40 : decode cX6_go 40 = .ok (.bipush 10, 2) := by decide +kernel
theorem dX6_go_42 : decode cX6_go 42 = .ok (.irem, 1) := by decide +kernel
theorem dX6_go_43 : decode cX6_go 43 = .ok (.invokevirtual 129, 3) := by decide +kernel
theorem dX6_go_46 : decode cX6_go 46 = .ok (.iadd, 1) := by decide +kernel
theorem dX6_go_47 : decode cX6_go 47 = .ok (.iastore, 1) := by decide +kernel
theorem dX6_go_48 : decode cX6_go 48 = .ok (.aload_n 0, 1) := by decide +kernel
theorem dX6_go_49 : decode cX6_go 49 = .ok (.getfield 38, 3) := by decide +kernel
theorem dX6_go_52 : decode cX6_go 52 = .ok (.iload_n 1, 1) := by decide +kernel
theorem dX6_go_53 : decode cX6_go 53 = .ok (.iaload, 1) := by decide +kernel
theorem dX6_go_54 : decode cX6_go 54 = .ok (.bipush (-9), 2) := by decide +kernel
theorem dX6_go_56 : decode cX6_go 56 = .ok (.if_icmp .ne 116, 3) := by decide +kernel
theorem dX6_go_59 : decode cX6_go 59 = .ok (.aload_n 0, 1) := by decide +kernel
theorem dX6_go_60 : decode cX6_go 60 = .ok (.getfield 32, 3) := by decide +kernel
theorem dX6_go_63 : decode cX6_go 63 = .ok (.iload_n 1, 1) := by decide +kernel
theorem dX6_go_64 : decode cX6_go 64 = .ok (.iaload, 1) := by decide +kernel
theorem dX6_go_65 : decode cX6_go 65 = .ok (.aload_n 0, 1) := by decide +kernel
theorem dX6_go_66 : decode cX6_go 66 = .ok (.getfield 35, 3) := by decide +kernel
theorem dX6_go_69 : decode cX6_go 69 = .ok (.iload_n 1, 1) := by decide +kernel
theorem dX6_go_70 : decode cX6_go 70 = .ok (.iaload, 1) := by decide +kernel
theorem dX6_go_71 : decode cX6_go 71 = .ok (.invokestatic 146, 3) := by decide +kernel
theorem dX6_go_74 : decode cX6_go 74 = .ok (.if_icmp .lt 98, 3) := by decide +kernel
theorem dX6_go_77 : decode cX6_go 77 = .ok (.aload_n 0, 1) := by decide +kernel
theorem dX6_go_78 : decode cX6_go 78 = .ok (.aload_n 0, 1) := by decide +kernel
theorem dX6_go_79 : decode cX6_go 79 = .ok (.getfield 29, 3) := by decide +kernel
theorem dX6_go_82 : decode cX6_go 82 = .ok (.iload_n 1, 1) := by decide +kernel
theorem dX6_go_83 : decode cX6_go 83 = .ok (.iaload, 1) := by decide +kernel
theorem dX6_go_84 : decode cX6_go 84 = .ok (.aload_n 0, 1) := by decide +kernel
theorem dX6_go_85 : decode cX6_go 85 = .ok (.getfield 35, 3) := by decide +kernel
theorem dX6_go_88 : decode cX6_go 88 = .ok (.iload_n 1, 1) := by decide +kernel
theorem dX6_go_89 : decode cX6_go 89 = .ok (.iaload, 1) := by decide +kernel
theorem dX6_go_90 : decode cX6_go 90 = .ok (.invokevirtual 149, 3) := by decide +kernel
theorem dX6_go_93 : decode cX6_go 93 = .ok (.istore_n 3, 1) := by decide +kernel
theorem dX6_go_94 : decode cX6_go 94 = .ok (.iload_n 3, 1) := by decide +kernel
theorem dX6_go_95 : decode cX6_go 95 = .ok (.bipush (-9), 2) := by decide +kernel
theorem dX6_go_97 : decode cX6_go 97 = .ok (.if_icmp .ne 11, 3) := by decide +kernel
theorem dX6_go_100 : decode cX6_go 100 = .ok (.aload_n 0, 1) := by decide +kernel
theorem dX6_go_101 : decode cX6_go 101 = .ok (.getfield 32, 3) := by decide +kernel
theorem dX6_go_104 : decode cX6_go 104 = .ok (.iload_n 1, 1) := by decide +kernel
theorem dX6_go_105 : decode cX6_go 105 = .ok (.iconst 0, 1) := by decide +kernel
theorem dX6_go_106 : decode cX6_go 106 = .ok (.iastore, 1) := by decide +kernel
theorem dX6_go_107 : decode cX6_go 107 = .ok (.return_, 1) := by decide +kernel
theorem dX6_go_108 : decode cX6_go 108 = .ok (.aload_n 0, 1) := by decide +kernel
theorem dX6_go_109 : decode cX6_go 109 = .ok (.getfield 32, 3) := by decide +kernel
theorem dX6_go_112 : decode cX6_go 112 = .ok (.iload_n 1, 1) := by decide +kernel
theorem dX6_go_113 : decode cX6_go 113 = .ok (.dup2, 1) := by decide +kernel
theorem dX6_go_114 : decode cX6_go 114 = .ok (.iaload, 1) := by decide +kernel
theorem dX6_go_115 : decode cX6_go 115 = .ok (.aload_n 0, 1) := by decide +kernel
theorem dX6_go_116 : decode cX6_go 116 = .ok (.getfield 35, 3) := by decide +kernel
theorem dX6_go_119 : decode cX6_go 119 = .ok (.iload_n 1, 1) := by decide +kernel
theorem dX6_go_120 : decode cX6_go 120 = .ok (.iaload, 1) := by decide +kernel
theorem dX6_go_121 : decode cX6_go 121 = .ok (.invokestatic 146, 3) := by decide +kernel
theorem dX6_go_124 : decode cX6_go 124 = .ok (.isub, 1) := by decide +kernel
theorem dX6_go_125 : decode cX6_go 125 = .ok (.iastore, 1) := by decide +kernel
theorem dX6_go_126 : decode cX6_go 126 = .ok (.aload_n 0, 1) := by decide +kernel
theorem dX6_go_127 : decode cX6_go 127 = .ok (.getfield 29, 3) := by decide +kernel
theorem dX6_go_130 : decode cX6_go 130 = .ok (.iload_n 1, 1) := by decide +kernel
theorem dX6_go_131 : decode cX6_go 131 = .ok (.iload_n 3, 1) := by decide +kernel
theorem dX6_go_132 : decode cX6_go 132 = .ok (.iastore, 1) := by decide +kernel
theorem dX6_go_133 : decode cX6_go 133 = .ok (.aload_n 0, 1) := by decide +kernel
theorem dX6_go_134 : decode cX6_go 134 = .ok (.getfield 47, 3) := by decide +kernel
theorem dX6_go_137 : decode cX6_go 137 = .ok (.iload_n 1, 1) := by decide +kernel
theorem dX6_go_138 : decode cX6_go 138 = .ok (.dup2, 1) := by decide +kernel
theorem dX6_go_139 : decode cX6_go 139 = .ok (.iaload, 1) := by decide +kernel
theorem dX6_go_140 : decode cX6_go 140 = .ok (.iconst 1, 1) := by decide +kernel
theorem dX6_go_141 : decode cX6_go 141 = .ok (.iadd, 1) := by decide +kernel
theorem dX6_go_142 : decode cX6_go 142 = .ok (.iastore, 1) := by decide +kernel
theorem dX6_go_143 : decode cX6_go 143 = .ok (.iload_n 3, 1) := by decide +kernel
theorem dX6_go_144 : decode cX6_go 144 = .ok (.aload_n 0, 1) := by decide +kernel
theorem dX6_go_145 : decode cX6_go 145 = .ok (.getfield 136, 3) := by decide +kernel
theorem dX6_go_148 : decode cX6_go 148 = .ok (.if_icmp .ne 16, 3) := by decide +kernel
theorem dX6_go_151 : decode cX6_go 151 = .ok (.aload_n 0, 1) := by decide +kernel
theorem dX6_go_152 : decode cX6_go 152 = .ok (.getfield 38, 3) := by decide +kernel
theorem dX6_go_155 : decode cX6_go 155 = .ok (.iload_n 1, 1) := by decide +kernel
theorem dX6_go_156 : decode cX6_go 156 = .ok (.aload_n 0, 1) := by decide +kernel
theorem dX6_go_157 : decode cX6_go 157 = .ok (.getfield 113, 3) := by decide +kernel
theorem dX6_go_160 : decode cX6_go 160 = .ok (.iastore, 1) := by decide +kernel
theorem dX6_go_161 : decode cX6_go 161 = .ok (.goto 8, 3) := by decide +kernel
theorem dX6_go_164 : decode cX6_go 164 = .ok (.aload_n 0, 1) := by decide +kernel
theorem dX6_go_165 : decode cX6_go 165 = .ok (.iload_n 1, 1) := by decide +kernel
theorem dX6_go_166 : decode cX6_go 166 = .ok (.invokevirtual 142, 3) := by decide +kernel
theorem dX6_go_169 : decode cX6_go 169 = .ok (.goto (-121), 3) := by decide +kernel
theorem dX6_go_172 : decode cX6_go 172 = .ok (.return_, 1) := by decide +kernel
theorem dX6_atHome_0 : decode cX6_atHome 0 = .ok (.iconst 0, 1) := by decide +kernel
theorem dX6_atHome_1 : decode cX6_atHome 1 = .ok (.istore_n 1, 1) := by decide +kernel
theorem dX6_atHome_2 : decode cX6_atHome 2 = .ok (.iconst 0, 1) := by decide +kernel
theorem dX6_atHome_3 : decode cX6_atHome 3 = .ok (.istore_n 2, 1) := by decide +kernel
theorem dX6_atHome_4 : decode cX6_atHome 4 = .ok (.iload_n 2, 1) := by decide +kernel
theorem dX6_atHome_5 : decode cX6_atHome 5 = .ok (.aload_n 0, 1) := by decide +kernel
theorem dX6_atHome_6 : decode cX6_atHome 6 = .ok (.getfield 110, 3) := by decide +kernel
theorem dX6_atHome_9 : decode cX6_atHome 9 = .ok (.if_icmp .ge 28, 3) := by decide +kernel
theorem dX6_atHome_12 : decode cX6_atHome 12 = .ok (.iload_n 1, 1) := by decide +kernel
theorem dX6_atHome_13 : decode cX6_atHome 13 = .ok (.aload_n 0, 1) := by decide +kernel
theorem dX6_atHome_14 : decode cX6_atHome 14 = .ok (.getfield 38, 3) := by decide +kernel
theorem dX6_atHome_17 : decode cX6_atHome 17 = .ok (.iload_n 2, 1) := by decide +kernel
theorem dX6_atHome_18 : decode cX6_atHome 18 = .ok (.iaload, 1) := by decide +kernel
theorem dX6_atHome_19 : decode cX6_atHome 19 = .ok (.bipush (-9), 2) := by decide +kernel
theorem dX6_atHome_21 : decode cX6_atHome 21 = .ok (.if_icmp .eq 7, 3) := by decide +kernel
theorem dX6_atHome_24 : decode cX6_atHome 24 = .ok (.iconst 1, 1) := by decide +kernel
theorem dX6_atHome_25 : decode cX6_atHome 25 = .ok (.goto 4, 3) := by decide +kernel
theorem dX6_atHome_28 : decode cX6_atHome 28 = .ok (.iconst 0, 1) := by decide +kernel
theorem dX6_atHome_29 : decode cX6_atHome 29 = .ok (.iadd, 1) := by decide +kernel
theorem dX6_atHome_30 : decode cX6_atHome 30 = .ok (.istore_n 1, 1) := by decide +kernel
theorem dX6_atHome_31 : decode cX6_atHome 31 = .ok (.iinc 2 1, 3) := by decide +kernel
theorem dX6_atHome_34 : decode cX6_atHome 34 = .ok (.goto (-30), 3) := by decide +kernel
theorem dX6_atHome_37 : decode cX6_atHome 37 = .ok (.iload_n 1, 1) := by decide +kernel
theorem dX6_atHome_38 : decode cX6_atHome 38 = .ok (.ireturn, 1) := by decide +kernel
set_option maxRecDepth 20000 in
theorem ggX6_run_X6_in : GoodIn wsX6_run wsX6_in := goodIn_r _ [8] rfl (by decide +kernel)
set_option maxRecDepth 20000 in
theorem gX6_run_X6_in : GoodIn wsX6_run (va_wsS RX6 87 yX6_in wsX6_in) := goodIn_app (goodIn_of _ (by decide +kernel)) ggX6_run_X6_in
set_option maxRecDepth 20000 in
theorem ggX6_run_X6_atHome : GoodIn wsX6_run wsX6_atHome := goodIn_r _ [12, 3, 4, 48, 49, 50, 51, 52, 53, 54, 55, 56, 57, 58, 59, 60, 61, 62, 63, 64, 65, 66, 67, 68, 69, 70, 71, 72, 73, 74, 75, 76, 77, 78] rfl (by decide +kernel)
set_option maxRecDepth 20000 in
theorem gX6_run_X6_atHome : GoodIn wsX6_run (wsV RX6 153 RX6 yX6_atHome wsX6_atHome) := goodIn_app (goodIn_of _ (by decide +kernel)) ggX6_run_X6_atHome
set_option maxRecDepth 20000 in
theorem ggX6_run_X6_go : GoodIn wsX6_run wsX6_go := goodIn_r _ [16, 17, 1, 18, 19, 4, 20, 21, 22, 23, 24, 7, 25, 26, 27, 28, 29, 30, 31, 32, 33, 5, 6, 8, 34, 35, 36, 37, 38, 39, 40, 41, 42, 43, 44, 45, 46, 47, 48, 49, 50, 51, 52, 53, 54, 55, 56, 57, 58, 59, 60, 61, 62, 63, 64, 65, 66, 67, 68, 69, 70, 71, 72, 73, 74, 75, 76, 77, 78] rfl (by decide +kernel)
set_option maxRecDepth 20000 in
theorem gX6_run_X6_go : GoodIn wsX6_run (wsV RX6 157 RX6 yX6_go wsX6_go) := goodIn_app (goodIn_of _ (by decide +kernel)) ggX6_run_X6_go
theorem dX6_run_0 : decode cX6_run 0 = .ok (.iload_n 1, 1) := by decide +kernel
theorem dX6_run_1 : decode cX6_run 1 = .ok (.iconst 0, 1) := by decide +kernel
theorem dX6_run_2 : decode cX6_run 2 = .ok (.sipush 2000, 3) := by decide +kernel
theorem dX6_run_5 : decode cX6_run 5 = .ok (.invokestatic 87, 3) := by decide +kernel
theorem dX6_run_8 : decode cX6_run 8 = .ok (.ifCond .ne 5, 3) := by decide +kernel
theorem dX6_run_11 : decode cX6_run 11 = .ok (.iconst (-1), 1) := by decide +kernel
theorem dX6_run_12 : decode cX6_run 12 = .ok (.ireturn, 1) := by decide +kernel
theorem dX6_run_13 : decode cX6_run 13 = .ok (.aload_n 0, 1) := by decide +kernel
theorem dX6_run_14 : decode cX6_run 14 = .ok (.getfield 113, 3) := by decide +kernel
theorem dX6_run_17 : decode cX6_run 17 = .ok (.iload_n 1, 1) := by decide +kernel
theorem dX6_run_18 : decode cX6_run 18 = .ok (.iadd, 1) := by decide +kernel
theorem dX6_run_19 : decode cX6_run 19 = .ok (.ldc 152, 2) := by decide +kernel
theorem dX6_run_21 : decode cX6_run 21 = .ok (.if_icmp .le 6, 3) := by decide +kernel
theorem dX6_run_24 : decode cX6_run 24 = .ok (.bipush (-2), 2) := by decide +kernel
theorem dX6_run_26 : decode cX6_run 26 = .ok (.ireturn, 1) := by decide +kernel
theorem dX6_run_27 : decode cX6_run 27 = .ok (.aload_n 0, 1) := by decide +kernel
theorem dX6_run_28 : decode cX6_run 28 = .ok (.invokevirtual 153, 3) := by decide +kernel
theorem dX6_run_31 : decode cX6_run 31 = .ok (.istore_n 2, 1) := by decide +kernel
theorem dX6_run_32 : decode cX6_run 32 = .ok (.iconst 0, 1) := by decide +kernel
theorem dX6_run_33 : decode cX6_run 33 = .ok (.istore_n 3, 1) := by decide +kernel
theorem dX6_run_34 : decode cX6_run 34 = .ok (.iload_n 3, 1) := by decide +kernel
theorem dX6_run_35 : decode cX6_run 35 = .ok (.iload_n 1, 1) := by decide +kernel
theorem dX6_run_36 : decode cX6_run 36 = .ok (.if_icmp .ge 55, 3) := by decide +kernel
theorem dX6_run_39 : decode cX6_run 39 = .ok (.iconst 0, 1) := by decide +kernel
theorem dX6_run_40 : decode cX6_run 40 = .ok (.istore 4, 2) := by decide +kernel
theorem dX6_run_42 : decode cX6_run 42 = .ok (.iload 4, 2) := by decide +kernel
theorem dX6_run_44 : decode cX6_run 44 = .ok (.aload_n 0, 1) := by decide +kernel
theorem dX6_run_45 : decode cX6_run 45 = .ok (.getfield 110, 3) := by decide +kernel
theorem dX6_run_48 : decode cX6_run 48 = .ok (.if_icmp .ge 27, 3) := by decide +kernel
theorem dX6_run_51 : decode cX6_run 51 = .ok (.aload_n 0, 1) := by decide +kernel
theorem dX6_run_52 : decode cX6_run 52 = .ok (.getfield 38, 3) := by decide +kernel
theorem dX6_run_55 : decode cX6_run 55 = .ok (.iload 4, 2) := by decide +kernel
theorem dX6_run_57 : decode cX6_run 57 = .ok (.iaload, 1) := by decide +kernel
theorem dX6_run_58 : decode cX6_run 58 = .ok (.bipush (-9), 2) := by decide +kernel
theorem dX6_run_60 : decode cX6_run 60 = .ok (.if_icmp .ne 9, 3) := by decide +kernel
theorem dX6_run_63 : decode cX6_run 63 = .ok (.aload_n 0, 1) := by decide +kernel
theorem dX6_run_64 : decode cX6_run 64 = .ok (.iload 4, 2) := by decide +kernel
theorem dX6_run_66 : decode cX6_run 66 = .ok (.invokevirtual 157, 3) := by decide +kernel
theorem dX6_run_69 : decode cX6_run 69 = .ok (.iinc 4 1, 3) := by decide +kernel
theorem dX6_run_72 : decode cX6_run 72 = .ok (.goto (-30), 3) := by decide +kernel
theorem dX6_run_75 : decode cX6_run 75 = .ok (.aload_n 0, 1) := by decide +kernel
theorem dX6_run_76 : decode cX6_run 76 = .ok (.dup, 1) := by decide +kernel
theorem dX6_run_77 : decode cX6_run 77 = .ok (.getfield 113, 3) := by decide +kernel
theorem dX6_run_80 : decode cX6_run 80 = .ok (.iconst 1, 1) := by decide +kernel
theorem dX6_run_81 : decode cX6_run 81 = .ok (.iadd, 1) := by decide +kernel
theorem dX6_run_82 : decode cX6_run 82 = .ok (.putfield 113, 3) := by decide +kernel
theorem dX6_run_85 : decode cX6_run 85 = .ok (.iinc 3 1, 3) := by decide +kernel
theorem dX6_run_88 : decode cX6_run 88 = .ok (.goto (-54), 3) := by decide +kernel
theorem dX6_run_91 : decode cX6_run 91 = .ok (.aload_n 0, 1) := by decide +kernel
theorem dX6_run_92 : decode cX6_run 92 = .ok (.invokevirtual 153, 3) := by decide +kernel
theorem dX6_run_95 : decode cX6_run 95 = .ok (.iload_n 2, 1) := by decide +kernel
theorem dX6_run_96 : decode cX6_run 96 = .ok (.isub, 1) := by decide +kernel
theorem dX6_run_97 : decode cX6_run 97 = .ok (.ireturn, 1) := by decide +kernel
set_option maxRecDepth 20000 in
theorem ggX6_firstShip_X6_entryOf : GoodIn wsX6_firstShip wsX6_entryOf := goodIn_r _ [7, 2, 8, 9, 10, 11, 12, 13, 14, 15, 16, 17, 18, 19, 20, 21, 22, 23, 24, 25, 26, 27, 28, 29, 30, 31, 32, 33, 34, 35, 36, 37, 38, 39] rfl (by decide +kernel)
set_option maxRecDepth 20000 in
theorem gX6_firstShip_X6_entryOf : GoodIn wsX6_firstShip (wsV RX6 122 RX6 yX6_entryOf wsX6_entryOf) := goodIn_app (goodIn_of _ (by decide +kernel)) ggX6_firstShip_X6_entryOf
theorem dX6_firstShip_0 : decode cX6_firstShip 0 = .ok (.bipush (-9), 2) := by decide +kernel
theorem dX6_firstShip_2 : decode cX6_firstShip 2 = .ok (.istore_n 1, 1) := by decide +kernel
theorem dX6_firstShip_3 : decode cX6_firstShip 3 = .ok (.iconst 0, 1) := by decide +kernel
theorem dX6_firstShip_4 : decode cX6_firstShip 4 = .ok (.istore_n 2, 1) := by decide +kernel
theorem dX6_firstShip_5 : decode cX6_firstShip 5 = .ok (.iload_n 2, 1) := by decide +kernel
theorem dX6_firstShip_6 : decode cX6_firstShip 6 = .ok (.aload_n 0, 1) := by decide +kernel
theorem dX6_firstShip_7 : decode cX6_firstShip 7 = .ok (.getfield 110, 3) := by decide +kernel
theorem dX6_firstShip_10 : decode cX6_firstShip 10 = .ok (.if_icmp .ge 69, 3) := by decide +kernel
theorem dX6_firstShip_13 : decode cX6_firstShip 13 = .ok (.aload_n 0, 1) := by decide +kernel
theorem dX6_firstShip_14 : decode cX6_firstShip 14 = .ok (.getfield 38, 3) := by decide +kernel
theorem dX6_firstShip_17 : decode cX6_firstShip 17 = .ok (.iload_n 2, 1) := by decide +kernel
theorem dX6_firstShip_18 : decode cX6_firstShip 18 = .ok (.iaload, 1) := by decide +kernel
theorem dX6_firstShip_19 : decode cX6_firstShip 19 = .ok (.bipush (-9), 2) := by decide +kernel
theorem dX6_firstShip_21 : decode cX6_firstShip 21 = .ok (.if_icmp .eq 52, 3) := by decide +kernel
theorem dX6_firstShip_24 : decode cX6_firstShip 24 = .ok (.iload_n 1, 1) := by decide +kernel
theorem dX6_firstShip_25 : decode cX6_firstShip 25 = .ok (.ifCond .ge 7, 3) := by decide +kernel
theorem dX6_firstShip_28 : decode cX6_firstShip 28 = .ok (.iconst (-1), 1) := by decide +kernel
theorem dX6_firstShip_29 : decode cX6_firstShip 29 = .ok (.goto 14, 3) := by decide +kernel
theorem dX6_firstShip_32 : decode cX6_firstShip 32 = .ok (.aload_n 0, 1) := by decide +kernel
theorem dX6_firstShip_33 : decode cX6_firstShip 33 = .ok (.iload_n 2, 1) := by decide +kernel
theorem dX6_firstShip_34 : decode cX6_firstShip 34 = .ok (.invokevirtual 122, 3) := by decide +kernel
theorem dX6_firstShip_37 : decode cX6_firstShip 37 = .ok (.aload_n 0, 1) := by decide +kernel
theorem dX6_firstShip_38 : decode cX6_firstShip 38 = .ok (.iload_n 1, 1) := by decide +kernel
theorem dX6_firstShip_39 : decode cX6_firstShip 39 = .ok (.invokevirtual 122, 3) := by decide +kernel
theorem dX6_firstShip_42 : decode cX6_firstShip 42 = .ok (.isub, 1) := by decide +kernel
theorem dX6_firstShip_43 : decode cX6_firstShip 43 = .ok (.istore_n 3, 1) := by decide +kernel
theorem dX6_firstShip_44 : decode cX6_firstShip 44 = .ok (.iload_n 3, 1) := by decide +kernel
theorem dX6_firstShip_45 : decode cX6_firstShip 45 = .ok (.ifCond .lt 22, 3) := by decide +kernel
theorem dX6_firstShip_48 : decode cX6_firstShip 48 = .ok (.iload_n 3, 1) := by decide +kernel
theorem dX6_firstShip_49 : decode cX6_firstShip 49 = .ok (.ifCond .ne 22, 3) := by decide +kernel
theorem dX6_firstShip_52 : decode cX6_firstShip 52 = .ok (.aload_n 0, 1) := by decide +kernel
theorem dX6_firstShip_53 : decode cX6_firstShip 53 = .ok (.getfield 38, 3) := by decide +kernel
theorem dX6_firstShip_56 : decode cX6_firstShip 56 = .ok (.iload_n 2, 1) := by decide +kernel
theorem dX6_firstShip_57 : decode cX6_firstShip 57 = .ok (.iaload, 1) := by decide +kernel
theorem dX6_firstShip_58 : decode cX6_firstShip 58 = .ok (.aload_n 0, 1) := by decide +kernel
theorem dX6_firstShip_59 : decode cX6_firstShip 59 = .ok (.getfield 38, 3) := by decide +kernel
theorem dX6_firstShip_62 : decode cX6_firstShip 62 = .ok (.iload_n 1, 1) := by decide +kernel
theorem dX6_firstShip_63 : decode cX6_firstShip 63 = .ok (.iaload, 1) := by decide +kernel
theorem dX6_firstShip_64 : decode cX6_firstShip 64 = .ok (.if_icmp .ge 7, 3) := by decide +kernel
theorem dX6_firstShip_67 : decode cX6_firstShip 67 = .ok (.iload_n 2, 1) := by decide +kernel
theorem dX6_firstShip_68 : decode cX6_firstShip 68 = .ok (.goto 4, 3) := by decide +kernel
theorem dX6_firstShip_71 : decode cX6_firstShip 71 = .ok (.iload_n 1, 1) := by decide +kernel
theorem dX6_firstShip_72 : decode cX6_firstShip 72 = .ok (.istore_n 1, 1) := by decide +kernel
theorem dX6_firstShip_73 : decode cX6_firstShip 73 = .ok (.iinc 2 1, 3) := by decide +kernel
theorem dX6_firstShip_76 : decode cX6_firstShip 76 = .ok (.goto (-71), 3) := by decide +kernel
theorem dX6_firstShip_79 : decode cX6_firstShip 79 = .ok (.iload_n 1, 1) := by decide +kernel
theorem dX6_firstShip_80 : decode cX6_firstShip 80 = .ok (.ireturn, 1) := by decide +kernel
set_option maxRecDepth 20000 in
theorem ggX6_first_X6_firstShip : GoodIn wsX6_first wsX6_firstShip := goodIn_r _ [5, 6, 7, 8, 9, 10, 4, 11, 12, 13, 14, 15, 16, 17, 18, 19, 20, 21, 22, 23, 24, 25, 26, 27, 28, 29, 30, 31, 32, 33, 34, 35, 36, 37, 38, 39, 40, 41, 42, 43] rfl (by decide +kernel)
set_option maxRecDepth 20000 in
theorem gX6_first_X6_firstShip : GoodIn wsX6_first (wsV RX6 160 RX6 yX6_firstShip wsX6_firstShip) := goodIn_app (goodIn_of _ (by decide +kernel)) ggX6_first_X6_firstShip
theorem dX6_first_0 : decode cX6_first 0 = .ok (.aload_n 0, 1) := by decide +kernel
theorem dX6_first_1 : decode cX6_first 1 = .ok (.invokevirtual 160, 3) := by decide +kernel
theorem dX6_first_4 : decode cX6_first 4 = .ok (.ireturn, 1) := by decide +kernel
set_option maxRecDepth 20000 in
theorem ggX6_crossing_X6_need : GoodIn wsX6_crossing wsX6_need := goodIn_r _ [4] rfl (by decide +kernel)
set_option maxRecDepth 20000 in
theorem gX6_crossing_X6_need : GoodIn wsX6_crossing (va_wsS RX6 146 yX6_need wsX6_need) := goodIn_app (goodIn_of _ (by decide +kernel)) ggX6_crossing_X6_need
set_option maxRecDepth 20000 in
theorem ggX6_crossing_X6_windAt : GoodIn wsX6_crossing wsX6_windAt := goodIn_r _ [8, 9, 10, 11, 12, 3, 13, 20, 21, 22, 23, 24, 25, 26, 27, 28, 29, 30, 31, 32, 33, 34, 35, 36, 37, 38, 39, 40, 41, 42, 43, 44, 45, 46, 47, 48, 49, 50] rfl (by decide +kernel)
set_option maxRecDepth 20000 in
theorem gX6_crossing_X6_windAt : GoodIn wsX6_crossing (wsV RX6 139 RX6 yX6_windAt wsX6_windAt) := goodIn_app (goodIn_of _ (by decide +kernel)) ggX6_crossing_X6_windAt
set_option maxRecDepth 20000 in
theorem ggX6_crossing_X6_speedOf : GoodIn wsX6_crossing wsX6_speedOf := goodIn_r _ [17, 18, 19, 20, 21, 22, 23, 24, 25, 26, 27, 28, 29, 30, 31, 32, 33, 34, 35, 36, 37, 38, 39, 40, 41, 42, 43, 44, 45, 46, 47, 48, 49, 50] rfl (by decide +kernel)
set_option maxRecDepth 20000 in
theorem gX6_crossing_X6_speedOf : GoodIn wsX6_crossing (wsV RX6 129 RX6 yX6_speedOf wsX6_speedOf) := goodIn_app (goodIn_of _ (by decide +kernel)) ggX6_crossing_X6_speedOf
theorem dX6_crossing_0 : decode cX6_crossing 0 = .ok (.iconst 0, 1) := by decide +kernel
theorem dX6_crossing_1 : decode cX6_crossing 1 = .ok (.istore 6, 2) := by decide +kernel
theorem dX6_crossing_3 : decode cX6_crossing 3 = .ok (.iconst 0, 1) := by decide +kernel
theorem dX6_crossing_4 : decode cX6_crossing 4 = .ok (.istore 7, 2) := by decide +kernel
theorem dX6_crossing_6 : decode cX6_crossing 6 = .ok (.iload 6, 2) := by decide +kernel
theorem dX6_crossing_8 : decode cX6_crossing 8 = .ok (.iload_n 3, 1) := by decide +kernel
theorem dX6_crossing_9 : decode cX6_crossing 9 = .ok (.invokestatic 146, 3) := by decide +kernel
theorem dX6_crossing_12 : decode cX6_crossing 12 = .ok (.if_icmp .ge 49, 3) := by decide +kernel
theorem dX6_crossing_15 : decode cX6_crossing 15 = .ok (.iload 7, 2) := by decide +kernel
theorem dX6_crossing_17 : decode cX6_crossing 17 = .ok (.iload 5, 2) := by decide +kernel
theorem dX6_crossing_19 : decode cX6_crossing 19 = .ok (.if_icmp .gt 42, 3) := by decide +kernel
theorem dX6_crossing_22 : decode cX6_crossing 22 = .ok (.aload_n 0, 1) := by decide +kernel
theorem dX6_crossing_23 : decode cX6_crossing 23 = .ok (.iload_n 2, 1) := by decide +kernel
theorem dX6_crossing_24 : decode cX6_crossing 24 = .ok (.iload 4, 2) := by decide +kernel
theorem dX6_crossing_26 : decode cX6_crossing 26 = .ok (.iload 7, 2) := by decide +kernel
theorem dX6_crossing_28 : decode cX6_crossing 28 = .ok (.iadd, 1) := by decide +kernel
theorem dX6_crossing_29 : decode cX6_crossing 29 = .ok (.invokevirtual 139, 3) := by decide +kernel
theorem dX6_crossing_32 : decode cX6_crossing 32 = .ok (.istore 8, 2) := by decide +kernel
theorem dX6_crossing_34 : decode cX6_crossing 34 = .ok (.iload 6, 2) := by decide +kernel
theorem dX6_crossing_36 : decode cX6_crossing 36 = .ok (.aload_n 0, 1) := by decide +kernel
theorem dX6_crossing_37 : decode cX6_crossing 37 = .ok (.iload_n 1, 1) := by decide +kernel
theorem dX6_crossing_38 : decode cX6_crossing 38 = .ok (.iload_n 3, 1) := by decide +kernel
theorem dX6_crossing_39 : decode cX6_crossing 39 = .ok (.iload 8, 2) := by decide +kernel
theorem dX6_crossing_41 : decode cX6_crossing 41 = .ok (.bipush 10, 2) := by decide +kernel
theorem dX6_crossing_43 : decode cX6_crossing 43 = .ok (.idiv, 1) := by decide +kernel
theorem dX6_crossing_44 : decode cX6_crossing 44 = .ok (.iload 8, 2) := by decide +kernel
theorem dX6_crossing_46 : decode cX6_crossing 46 = .ok (.bipush 10, 2) := by decide +kernel
theorem dX6_crossing_48 : decode cX6_crossing 48 = .ok (.irem, 1) := by decide +kernel
theorem dX6_crossing_49 : decode cX6_crossing 49 = .ok (.invokevirtual 129, 3) := by decide +kernel
theorem dX6_crossing_52 : decode cX6_crossing 52 = .ok (.iadd, 1) := by decide +kernel
theorem dX6_crossing_53 : decode cX6_crossing 53 = .ok (.istore 6, 2) := by decide +kernel
theorem dX6_crossing_55 : decode cX6_crossing 55 = .ok (.iinc 7 1, 3) := by decide +kernel
theorem dX6_crossing_58 : decode cX6_crossing 58 = .ok (.goto (-52), 3) := by decide +kernel
theorem dX6_crossing_61 : decode cX6_crossing 61 = .ok (.iload 7, 2) := by decide +kernel
theorem dX6_crossing_63 : decode cX6_crossing 63 = .ok (.ireturn, 1) := by decide +kernel
set_option maxRecDepth 20000 in
theorem ggX6_least_X6_isShip : GoodIn wsX6_least wsX6_isShip := goodIn_r _ [9, 10, 11, 12, 8, 13, 40, 41, 42, 43, 44, 45, 46, 47, 48, 49, 50, 51, 52, 53, 54, 55, 56, 57, 58, 59, 60, 61, 62, 63, 64, 65, 66, 67, 68, 69, 70] rfl (by decide +kernel)
set_option maxRecDepth 20000 in
theorem gX6_least_X6_isShip : GoodIn wsX6_least (wsV RX6 116 RX6 yX6_isShip wsX6_isShip) := goodIn_app (goodIn_of _ (by decide +kernel)) ggX6_least_X6_isShip
set_option maxRecDepth 20000 in
theorem ggX6_least_X6_isCell : GoodIn wsX6_least wsX6_isCell := goodIn_r _ [16, 11, 12, 8, 13] rfl (by decide +kernel)
set_option maxRecDepth 20000 in
theorem gX6_least_X6_isCell : GoodIn wsX6_least (va_wsS RX6 91 yX6_isCell wsX6_isCell) := goodIn_app (goodIn_of _ (by decide +kernel)) ggX6_least_X6_isCell
set_option maxRecDepth 20000 in
theorem ggX6_least_X6_in : GoodIn wsX6_least wsX6_in := goodIn_r _ [13] rfl (by decide +kernel)
set_option maxRecDepth 20000 in
theorem gX6_least_X6_in : GoodIn wsX6_least (va_wsS RX6 87 yX6_in wsX6_in) := goodIn_app (goodIn_of _ (by decide +kernel)) ggX6_least_X6_in
set_option maxRecDepth 20000 in
theorem ggX6_least_X6_nextCell : GoodIn wsX6_least wsX6_nextCell := goodIn_r _ [20, 1, 11, 12, 8, 13, 40, 41, 42, 43, 44, 45, 46, 47, 48, 49, 50, 51, 52, 53, 54, 55, 56, 57, 58, 59, 60, 61, 62, 63, 64, 65, 66, 67, 68, 69, 70] rfl (by decide +kernel)
set_option maxRecDepth 20000 in
theorem gX6_least_X6_nextCell : GoodIn wsX6_least (wsV RX6 149 RX6 yX6_nextCell wsX6_nextCell) := goodIn_app (goodIn_of _ (by decide +kernel)) ggX6_least_X6_nextCell
set_option maxRecDepth 20000 in
theorem ggX6_least_X6_crossing : GoodIn wsX6_least wsX6_crossing := goodIn_r _ [24, 25, 26, 8, 27, 28, 29, 30, 31, 32, 33, 11, 12, 13, 34, 35, 36, 37, 38, 39, 40, 41, 42, 43, 44, 45, 46, 47, 48, 49, 50, 51, 52, 53, 54, 55, 56, 57, 58, 59, 60, 61, 62, 63, 64, 65, 66, 67, 68, 69, 70] rfl (by decide +kernel)
set_option maxRecDepth 20000 in
theorem gX6_least_X6_crossing : GoodIn wsX6_least (wsV RX6 164 RX6 yX6_crossing wsX6_crossing) := goodIn_app (goodIn_of _ (by decide +kernel)) ggX6_least_X6_crossing
theorem dX6_least_0 : decode cX6_least 0 = .ok (.aload_n 0, 1) := by decide +kernel
theorem dX6_least_1 : decode cX6_least 1 = .ok (.iload_n 1, 1) := by decide +kernel
theorem dX6_least_2 : decode cX6_least 2 = .ok (.invokevirtual 116, 3) := by decide +kernel
theorem dX6_least_5 : decode cX6_least 5 = .ok (.ifCond .eq 46, 3) := by decide +kernel
theorem dX6_least_8 : decode cX6_least 8 = .ok (.iload_n 2, 1) := by decide +kernel
theorem dX6_least_9 : decode cX6_least 9 = .ok (.invokestatic 91, 3) := by decide +kernel
theorem dX6_least_12 : decode cX6_least 12 = .ok (.ifCond .eq 39, 3) := by decide +kernel
theorem dX6_least_15 : decode cX6_least 15 = .ok (.iload_n 3, 1) := by decide +kernel
theorem dX6_least_16 : decode cX6_least 16 = .ok (.invokestatic 91, 3) := by decide +kernel
theorem dX6_least_19 : decode cX6_least 19 = .ok (.ifCond .eq 32, 3) := by decide +kernel
theorem dX6_least_22 : decode cX6_least 22 = .ok (.aload_n 0, 1) := by decide +kernel
theorem dX6_least_23 : decode cX6_least 23 = .ok (.getfield 13, 3) := by decide +kernel
theorem dX6_least_26 : decode cX6_least 26 = .ok (.iload_n 2, 1) := by decide +kernel
theorem dX6_least_27 : decode cX6_least 27 = .ok (.baload, 1) := by decide +kernel
theorem dX6_least_28 : decode cX6_least 28 = .ok (.ifCond .ne 23, 3) := by decide +kernel
theorem dX6_least_31 : decode cX6_least 31 = .ok (.aload_n 0, 1) := by decide +kernel
theorem dX6_least_32 : decode cX6_least 32 = .ok (.getfield 13, 3) := by decide +kernel
theorem dX6_least_35 : decode cX6_least 35 = .ok (.iload_n 3, 1) := by decide +kernel
theorem dX6_least_36 : decode cX6_least 36 = .ok (.baload, 1) := by decide +kernel
theorem dX6_least_37 : decode cX6_least 37 = .ok (.ifCond .ne 14, 3) := by decide +kernel
theorem dX6_least_40 : decode cX6_least 40 = .ok (.iload 4, 2) := by decide +kernel
theorem dX6_least_42 : decode cX6_least 42 = .ok (.iconst 0, 1) := by decide +kernel
theorem dX6_least_43 : decode cX6_least 43 = .ok (.ldc 163, 2) := by decide +kernel
theorem dX6_least_45 : decode cX6_least 45 = .ok (.invokestatic 87, 3) := by decide +kernel
theorem dX6_least_48 : decode cX6_least 48 = .ok (.ifCond .ne 5, 3) := by decide +kernel
theorem dX6_least_51 : decode cX6_least 51 = .ok (.iconst (-1), 1) := by decide +kernel
theorem dX6_least_52 : decode cX6_least 52 = .ok (.ireturn, 1) := by decide +kernel
theorem dX6_least_53 : decode cX6_least 53 = .ok (.iconst 0, 1) := by decide +kernel
theorem dX6_least_54 : decode cX6_least 54 = .ok (.istore 5, 2) := by decide +kernel
theorem dX6_least_56 : decode cX6_least 56 = .ok (.iload 5, 2) := by decide +kernel
theorem dX6_least_58 : decode cX6_least 58 = .ok (.sipush 160, 3) := by decide +kernel
theorem dX6_least_61 : decode cX6_least 61 = .ok (.if_icmp .ge 27, 3) := by decide +kernel
theorem dX6_least_64 : decode cX6_least 64 = .ok (.aload_n 0, 1) := by decide +kernel
theorem dX6_least_65 : decode cX6_least 65 = .ok (.getfield 62, 3) := by decide +kernel
theorem dX6_least_68 : decode cX6_least 68 = .ok (.iload 5, 2) := by decide +kernel
theorem dX6_least_70 : decode cX6_least 70 = .ok (.sipush 2001, 3) := by decide +kernel
theorem dX6_least_73 : decode cX6_least 73 = .ok (.iastore, 1) := by decide +kernel
theorem dX6_least_74 : decode cX6_least 74 = .ok (.aload_n 0, 1) := by decide +kernel
theorem dX6_least_75 : decode cX6_least 75 = .ok (.getfield 65, 3) := by decide +kernel
theorem dX6_least_78 : decode cX6_least 78 = .ok (.iload 5, 2) := by decide +kernel
theorem dX6_least_80 : decode cX6_least 80 = .ok (.iconst 0, 1) := by decide +kernel
theorem dX6_least_81 : decode cX6_least 81 = .ok (.bastore, 1) := by decide +kernel
theorem dX6_least_82 : decode cX6_least 82 = .ok (.iinc 5 1, 3) := by decide +kernel
theorem dX6_least_85 : decode cX6_least 85 = .ok (.goto (-29), 3) := by decide +kernel
theorem dX6_least_88 : decode cX6_least 88 = .ok (.aload_n 0, 1) := by decide +kernel
theorem dX6_least_89 : decode cX6_least 89 = .ok (.getfield 62, 3) := by decide +kernel
theorem dX6_least_92 : decode cX6_least 92 = .ok (.iload_n 2, 1) := by decide +kernel
theorem dX6_least_93 : decode cX6_least 93 = .ok (.iconst 0, 1) := by decide +kernel
theorem dX6_least_94 : decode cX6_least 94 = .ok (.iastore, 1) := by decide +kernel
theorem dX6_least_95 : decode cX6_least 95 = .ok (.iload_n 2, 1) := by decide +kernel
theorem dX6_least_96 : decode cX6_least 96 = .ok (.istore 5, 2) := by decide +kernel
theorem dX6_least_98 : decode cX6_least 98 = .ok (.iload 5, 2) := by decide +kernel
theorem dX6_least_100 : decode cX6_least 100 = .ok (.iload_n 3, 1) := by decide +kernel
theorem dX6_least_101 : decode cX6_least 101 = .ok (.if_icmp .eq 208, 3) := by decide +kernel
theorem dX6_least_104 : decode cX6_least 104 = .ok (.iload 5, 2) := by decide +kernel
theorem dX6_least_106 : decode cX6_least 106 = .ok (.ifCond .lt 203, 3) := by decide +kernel
theorem dX6_least_109 : decode cX6_least 109 = .ok (.aload_n 0, 1) := by decide +kernel
theorem dX6_least_110 : decode cX6_least 110 = .ok (.getfield 65, 3) := by decide +kernel
theorem dX6_least_113 : decode cX6_least 113 = .ok (.iload 5, 2) := by decide +kernel
theorem dX6_least_115 : decode cX6_least 115 = .ok (.iconst 1, 1) := by decide +kernel
theorem dX6_least_116 : decode cX6_least 116 = .ok (.bastore, 1) := by decide +kernel
theorem dX6_least_117 : decode cX6_least 117 = .ok (.iconst 0, 1) := by decide +kernel
theorem dX6_least_118 : decode cX6_least 118 = .ok (.istore 6, 2) := by decide +kernel
theorem dX6_least_120 : decode cX6_least 120 = .ok (.iload 6, 2) := by decide +kernel
theorem dX6_least_122 : decode cX6_least 122 = .ok (.bipush 8, 2) := by decide +kernel
theorem dX6_least_124 : decode cX6_least 124 = .ok (.if_icmp .ge 107, 3) := by decide +kernel
theorem dX6_least_127 : decode cX6_least 127 = .ok (.aload_n 0, 1) := by decide +kernel
theorem dX6_least_128 : decode cX6_least 128 = .ok (.iload 5, 2) := by decide +kernel
theorem dX6_least_130 : decode cX6_least 130 = .ok (.iload 6, 2) := by decide +kernel
theorem dX6_least_132 : decode cX6_least 132 = .ok (.invokevirtual 149, 3) := by decide +kernel
theorem dX6_least_135 : decode cX6_least 135 = .ok (.istore 7, 2) := by decide +kernel
theorem dX6_least_137 : decode cX6_least 137 = .ok (.iload 7, 2) := by decide +kernel
theorem dX6_least_139 : decode cX6_least 139 = .ok (.bipush (-9), 2) := by decide +kernel
theorem dX6_least_141 : decode cX6_least 141 = .ok (.if_icmp .eq 84, 3) := by decide +kernel
theorem dX6_least_144 : decode cX6_least 144 = .ok (.aload_n 0, 1) := by decide +kernel
theorem dX6_least_145 : decode cX6_least 145 = .ok (.getfield 65, 3) := by decide +kernel
theorem dX6_least_148 : decode cX6_least 148 = .ok (.iload 7, 2) := by decide +kernel
theorem dX6_least_150 : decode cX6_least 150 = .ok (.baload, 1) := by decide +kernel
theorem dX6_least_151 : decode cX6_least 151 = .ok (.ifCond .ne 74, 3) := by decide +kernel
theorem dX6_least_154 : decode cX6_least 154 = .ok (.aload_n 0, 1) := by decide +kernel
theorem dX6_least_155 : decode cX6_least 155 = .ok (.getfield 62, 3) := by decide +kernel
theorem dX6_least_158 : decode cX6_least 158 = .ok (.iload 5, 2) := by decide +kernel
theorem dX6_least_160 : decode cX6_least 160 = .ok (.iaload, 1) := by decide +kernel
theorem dX6_least_161 : decode cX6_least 161 = .ok (.aload_n 0, 1) := by decide +kernel
theorem dX6_least_162 : decode cX6_least 162 = .ok (.iload_n 1, 1) := by decide +kernel
theorem dX6_least_163 : decode cX6_least 163 = .ok (.iload 5, 2) := by decide +kernel
theorem dX6_least_165 : decode cX6_least 165 = .ok (.iload 6, 2) := by decide +kernel
theorem dX6_least_167 : decode cX6_least 167 = .ok (.iload 4, 2) := by decide +kernel
theorem dX6_least_169 : decode cX6_least 169 = .ok (.aload_n 0, 1) := by decide +kernel
theorem dX6_least_170 : decode cX6_least 170 = .ok (.getfield 62, 3) := by decide +kernel
theorem dX6_least_173 : decode cX6_least 173 = .ok (.iload 5, 2) := by decide +kernel
theorem dX6_least_175 : decode cX6_least 175 = .ok (.iaload, 1) := by decide +kernel
theorem dX6_least_176 : decode cX6_least 176 = .ok (.iadd, 1) := by decide +kernel
theorem dX6_least_177 : decode cX6_least 177 = .ok (.sipush 2000, 3) := by decide +kernel
theorem dX6_least_180 : decode cX6_least 180 = .ok (.aload_n 0, 1) := by decide +kernel
theorem dX6_least_181 : decode cX6_least 181 = .ok (.getfield 62, 3) := by decide +kernel
theorem dX6_least_184 : decode cX6_least 184 = .ok (.iload 5, 2) := by decide +kernel
theorem dX6_least_186 : decode cX6_least 186 = .ok (.iaload, 1) := by decide +kernel
theorem dX6_least_187 : decode cX6_least 187 = .ok (.isub, 1) := by decide +kernel
theorem dX6_least_188 : decode cX6_least 188 = .ok (.invokevirtual 164, 3) := by decide +kernel
theorem dX6_least_191 : decode cX6_least 191 = .ok (.iadd, 1) := by decide +kernel
theorem dX6_least_192 : decode cX6_least 192 = .ok (.istore 8, 2) := by decide +kernel
theorem dX6_least_194 : decode cX6_least 194 = .ok (.aload_n 0, 1) := by decide +kernel
theorem dX6_least_195 : decode cX6_least 195 = .ok (.getfield 62, 3) := by decide +kernel
theorem dX6_least_198 : decode cX6_least 198 = .ok (.iload 7, 2) := by decide +kernel
theorem dX6_least_200 : decode cX6_least 200 = .ok (.iload 8, 2) := by decide +kernel
theorem dX6_least_202 : decode cX6_least 202 = .ok (.aload_n 0, 1) := by decide +kernel
theorem dX6_least_203 : decode cX6_least 203 = .ok (.getfield 62, 3) := by decide +kernel
theorem dX6_least_206 : decode cX6_least 206 = .ok (.iload 7, 2) := by decide +kernel
theorem dX6_least_208 : decode cX6_least 208 = .ok (.iaload, 1) := by decide +kernel
theorem dX6_least_209 : decode cX6_least 209 = .ok (.if_icmp .ge 8, 3) := by decide +kernel
theorem dX6_least_212 : decode cX6_least 212 = .ok (.iload 8, 2) := by decide +kernel
theorem dX6_least_214 : decode cX6_least 214 = .ok (.goto 10, 3) := by decide +kernel
theorem dX6_least_217 : decode cX6_least 217 = .ok (.aload_n 0, 1) := by decide +kernel
theorem dX6_least_218 : decode cX6_least 218 = .ok (.getfield 62, 3) := by decide +kernel
theorem dX6_least_221 : decode cX6_least 221 = .ok (.iload 7, 2) := by decide +kernel
theorem dX6_least_223 : decode cX6_least 223 = .ok (.iaload, 1) := by decide +kernel
theorem dX6_least_224 : decode cX6_least 224 = .ok (.iastore, 1) := by decide +kernel
theorem dX6_least_225 : decode cX6_least 225 = .ok (.iinc 6 1, 3) := by decide +kernel
theorem dX6_least_228 : decode cX6_least 228 = .ok (.goto (-108), 3) := by decide +kernel
theorem dX6_least_231 : decode cX6_least 231 = .ok (.bipush (-9), 2) := by decide +kernel
theorem dX6_least_233 : decode cX6_least 233 = .ok (.istore 5, 2) := by decide +kernel
theorem dX6_least_235 : decode cX6_least 235 = .ok (.iconst 0, 1) := by decide +kernel
theorem dX6_least_236 : decode cX6_least 236 = .ok (.istore 6, 2) := by decide +kernel
theorem dX6_least_238 : decode cX6_least 238 = .ok (.iload 6, 2) := by decide +kernel
theorem dX6_least_240 : decode cX6_least 240 = .ok (.sipush 160, 3) := by decide +kernel
theorem dX6_least_243 : decode cX6_least 243 = .ok (.if_icmp .ge 63, 3) := by decide +kernel
theorem dX6_least_246 : decode cX6_least 246 = .ok (.aload_n 0, 1) := by decide +kernel
theorem dX6_least_247 : decode cX6_least 247 = .ok (.getfield 65, 3) := by decide +kernel
theorem dX6_least_250 : decode cX6_least 250 = .ok (.iload 6, 2) := by decide +kernel
theorem dX6_least_252 : decode cX6_least 252 = .ok (.baload, 1) := by decide +kernel
theorem dX6_least_253 : decode cX6_least 253 = .ok (.ifCond .ne 43, 3) := by decide +kernel
theorem dX6_least_256 : decode cX6_least 256 = .ok (.aload_n 0, 1) := by decide +kernel
theorem dX6_least_257 : decode cX6_least 257 = .ok (.getfield 62, 3) := by decide +kernel
theorem dX6_least_260 : decode cX6_least 260 = .ok (.iload 6, 2) := by decide +kernel
theorem dX6_least_262 : decode cX6_least 262 = .ok (.iaload, 1) := by decide +kernel
theorem dX6_least_263 : decode cX6_least 263 = .ok (.sipush 2000, 3) := by decide +kernel
theorem dX6_least_266 : decode cX6_least 266 = .ok (.if_icmp .gt 30, 3) := by decide +kernel
theorem dX6_least_269 : decode cX6_least 269 = .ok (.iload 5, 2) := by decide +kernel
theorem dX6_least_271 : decode cX6_least 271 = .ok (.ifCond .lt 20, 3) := by decide +kernel
theorem dX6_least_274 : decode cX6_least 274 = .ok (.aload_n 0, 1) := by decide +kernel
theorem dX6_least_275 : decode cX6_least 275 = .ok (.getfield 62, 3) := by decide +kernel
theorem dX6_least_278 : decode cX6_least 278 = .ok (.iload 6, 2) := by decide +kernel
theorem dX6_least_280 : decode cX6_least 280 = .ok (.iaload, 1) := by decide +kernel
theorem dX6_least_281 : decode cX6_least 281 = .ok (.aload_n 0, 1) := by decide +kernel
theorem dX6_least_282 : decode cX6_least 282 = .ok (.getfield 62, 3) := by decide +kernel
theorem dX6_least_285 : decode cX6_least 285 = .ok (.iload 5, 2) := by decide +kernel
theorem dX6_least_287 : decode cX6_least 287 = .ok (.iaload, 1) := by decide +kernel
theorem dX6_least_288 : decode cX6_least 288 = .ok (.if_icmp .ge 8, 3) := by decide +kernel
theorem dX6_least_291 : decode cX6_least 291 = .ok (.iload 6, 2) := by decide +kernel
theorem dX6_least_293 : decode cX6_least 293 = .ok (.goto 5, 3) := by decide +kernel
theorem dX6_least_296 : decode cX6_least 296 = .ok (.iload 5, 2) := by decide +kernel
theorem dX6_least_298 : decode cX6_least 298 = .ok (.istore 5, 2) := by decide +kernel
