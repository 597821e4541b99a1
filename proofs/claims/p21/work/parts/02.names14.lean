theorem dJ7_copyOf_1904c_3 : decode cJ7_copyOf_1904c 3 = .ok (.invokevirtual 86, 3) := by decide +kernel
theorem dJ7_copyOf_1904c_6 : decode cJ7_copyOf_1904c 6 = .ok (.invokestatic 300, 3) := by decide +kernel
theorem dJ7_copyOf_1904c_9 : decode cJ7_copyOf_1904c 9 = .ok (.areturn, 1) := by decide +kernel
theorem dJ7_copyOf_6403c_0 : decode cJ7_copyOf_6403c 0 = .ok (.aload_n 2, 1) := by decide +kernel
theorem dJ7_copyOf_6403c_1 : decode cJ7_copyOf_6403c 1 = .ok (.ldc 110, 2) := by decide +kernel
theorem dJ7_copyOf_6403c_3 : decode cJ7_copyOf_6403c 3 = .ok (.if_acmp .ne 10, 3) := by decide +kernel
theorem dJ7_copyOf_6403c_6 : decode cJ7_copyOf_6403c 6 = .ok (.iload_n 1, 1) := by decide +kernel
theorem dJ7_copyOf_6403c_7 : decode cJ7_copyOf_6403c 7 = .ok (.anewarray 2, 3) := by decide +kernel
theorem dJ7_copyOf_6403c_10 : decode cJ7_copyOf_6403c 10 = .ok (.goto 14, 3) := by decide +kernel
theorem dJ7_copyOf_6403c_13 : decode cJ7_copyOf_6403c 13 = .ok (.aload_n 2, 1) := by decide +kernel
theorem dJ7_copyOf_6403c_14 : decode cJ7_copyOf_6403c 14 = .ok (.invokevirtual 90, 3) := by decide +kernel
theorem dJ7_copyOf_6403c_17 : decode cJ7_copyOf_6403c 17 = .ok (.iload_n 1, 1) := by decide +kernel
theorem dJ7_copyOf_6403c_18 : decode cJ7_copyOf_6403c 18 = .ok (.invokestatic 95, 3) := by decide +kernel
theorem dJ7_copyOf_6403c_21 : decode cJ7_copyOf_6403c 21 = .ok (.checkcast 110, 3) := by decide +kernel
theorem dJ7_copyOf_6403c_24 : decode cJ7_copyOf_6403c 24 = .ok (.astore_n 3, 1) := by decide +kernel
theorem dJ7_copyOf_6403c_25 : decode cJ7_copyOf_6403c 25 = .ok (.aload_n 0, 1) := by decide +kernel
theorem dJ7_copyOf_6403c_26 : decode cJ7_copyOf_6403c 26 = .ok (.iconst 0, 1) := by decide +kernel
theorem dJ7_copyOf_6403c_27 : decode cJ7_copyOf_6403c 27 = .ok (.aload_n 3, 1) := by decide +kernel
theorem dJ7_copyOf_6403c_28 : decode cJ7_copyOf_6403c 28 = .ok (.iconst 0, 1) := by decide +kernel
theorem dJ7_copyOf_6403c_29 : decode cJ7_copyOf_6403c 29 = .ok (.aload_n 0, 1) := by decide +kernel
theorem dJ7_copyOf_6403c_30 : decode cJ7_copyOf_6403c 30 = .ok (.arraylength, 1) := by decide +kernel
theorem dJ7_copyOf_6403c_31 : decode cJ7_copyOf_6403c 31 = .ok (.iload_n 1, 1) := by decide +kernel
theorem dJ7_copyOf_6403c_32 : decode cJ7_copyOf_6403c 32 = .ok (.invokestatic 304, 3) := by decide +kernel
theorem dJ7_copyOf_6403c_35 : decode cJ7_copyOf_6403c 35 = .ok (.invokestatic 150, 3) := by decide +kernel
theorem dJ7_copyOf_6403c_38 : decode cJ7_copyOf_6403c 38 = .ok (.aload_n 3, 1) := by decide +kernel
theorem dJ7_copyOf_6403c_39 : decode cJ7_copyOf_6403c 39 = .ok (.areturn, 1) := by decide +kernel
set_option maxRecDepth 20000 in
theorem ggJ15_checkIndex_7cf53_J3_checkIndex_8e157 : GoodIn wsJ15_checkIndex_7cf53 wsJ3_checkIndex_8e157 := goodIn_r _ [4] (by decide +kernel) (by decide +kernel)
set_option maxRecDepth 20000 in
theorem gJ15_checkIndex_7cf53_J3_checkIndex_8e157 : GoodIn wsJ15_checkIndex_7cf53 (va_wsS RJ15 105 yJ3_checkIndex_8e157 wsJ3_checkIndex_8e157) := goodIn_app (goodIn_of _ (by decide +kernel)) ggJ15_checkIndex_7cf53_J3_checkIndex_8e157
theorem dJ15_checkIndex_7cf53_0 : decode cJ15_checkIndex_7cf53 0 = .ok (.iload_n 0, 1) := by decide +kernel
theorem dJ15_checkIndex_7cf53_1 : decode cJ15_checkIndex_7cf53 1 = .ok (.iload_n 1, 1) := by decide +kernel
theorem dJ15_checkIndex_7cf53_2 : decode cJ15_checkIndex_7cf53 2 = .ok (.aconst_null, 1) := by decide +kernel
theorem dJ15_checkIndex_7cf53_3 : decode cJ15_checkIndex_7cf53 3 = .ok (.invokestatic 105, 3) := by decide +kernel
theorem dJ15_checkIndex_7cf53_6 : decode cJ15_checkIndex_7cf53 6 = .ok (.ireturn, 1) := by decide +kernel
set_option maxRecDepth 20000 in
theorem ggJ8_newLength_cabcc_J8_hugeLength_7cf53 : GoodIn wsJ8_newLength_cabcc wsJ8_hugeLength_7cf53 := goodIn_r _ [9, 5] (by decide +kernel) (by decide +kernel)
set_option maxRecDepth 20000 in
theorem gJ8_newLength_cabcc_J8_hugeLength_7cf53 : GoodIn wsJ8_newLength_cabcc (va_wsS RJ8 201 yJ8_hugeLength_7cf53 wsJ8_hugeLength_7cf53) := goodIn_app (goodIn_of _ (by decide +kernel)) ggJ8_newLength_cabcc_J8_hugeLength_7cf53
theorem dJ8_newLength_cabcc_0 : decode cJ8_newLength_cabcc 0 = .ok (.iload_n 0, 1) := by decide +kernel
theorem dJ8_newLength_cabcc_1 : decode cJ8_newLength_cabcc 1 = .ok (.iload_n 1, 1) := by decide +kernel
theorem dJ8_newLength_cabcc_2 : decode cJ8_newLength_cabcc 2 = .ok (.iload_n 2, 1) := by decide +kernel
theorem dJ8_newLength_cabcc_3 : decode cJ8_newLength_cabcc 3 = .ok (.invokestatic 194, 3) := by decide +kernel
theorem dJ8_newLength_cabcc_6 : decode cJ8_newLength_cabcc 6 = .ok (.iadd, 1) := by decide +kernel
theorem dJ8_newLength_cabcc_7 : decode cJ8_newLength_cabcc 7 = .ok (.istore_n 3, 1) := by decide +kernel
theorem dJ8_newLength_cabcc_8 : decode cJ8_newLength_cabcc 8 = .ok (.iconst 0, 1) := by decide +kernel
theorem dJ8_newLength_cabcc_9 : decode cJ8_newLength_cabcc 9 = .ok (.iload_n 3, 1) := by decide +kernel
theorem dJ8_newLength_cabcc_10 : decode cJ8_newLength_cabcc 10 = .ok (.if_icmp .ge 11, 3) := by decide +kernel
theorem dJ8_newLength_cabcc_13 : decode cJ8_newLength_cabcc 13 = .ok (.iload_n 3, 1) := by decide +kernel
theorem dJ8_newLength_cabcc_14 : decode cJ8_newLength_cabcc 14 = .ok (.ldc 200, 2) := by decide +kernel
theorem dJ8_newLength_cabcc_16 : decode cJ8_newLength_cabcc 16 = .ok (.if_icmp .gt 5, 3) := by decide +kernel
theorem dJ8_newLength_cabcc_19 : decode cJ8_newLength_cabcc 19 = .ok (.iload_n 3, 1) := by decide +kernel
theorem dJ8_newLength_cabcc_20 : decode cJ8_newLength_cabcc 20 = .ok (.ireturn, 1) := by decide +kernel
theorem dJ8_newLength_cabcc_21 : decode cJ8_newLength_cabcc 21 = .ok (.iload_n 0, 1) := by decide +kernel
theorem dJ8_newLength_cabcc_22 : decode cJ8_newLength_cabcc 22 = .ok (.iload_n 1, 1) := by decide +kernel
theorem dJ8_newLength_cabcc_23 : decode cJ8_newLength_cabcc 23 = .ok (.invokestatic 201, 3) := by decide +kernel
theorem dJ8_newLength_cabcc_26 : decode cJ8_newLength_cabcc 26 = .ok (.ireturn, 1) := by decide +kernel
theorem dJ8_hugeLength_7cf53_0 : decode cJ8_hugeLength_7cf53 0 = .ok (.iload_n 0, 1) := by decide +kernel
theorem dJ8_hugeLength_7cf53_1 : decode cJ8_hugeLength_7cf53 1 = .ok (.iload_n 1, 1) := by decide +kernel
theorem dJ8_hugeLength_7cf53_2 : decode cJ8_hugeLength_7cf53 2 = .ok (.iadd, 1) := by decide +kernel
theorem dJ8_hugeLength_7cf53_3 : decode cJ8_hugeLength_7cf53 3 = .ok (.istore_n 2, 1) := by decide +kernel
theorem dJ8_hugeLength_7cf53_4 : decode cJ8_hugeLength_7cf53 4 = .ok (.iload_n 2, 1) := by decide +kernel
theorem dJ8_hugeLength_7cf53_5 : decode cJ8_hugeLength_7cf53 5 = .ok (.ifCond .ge 44, 3) := by decide +kernel
theorem dJ8_hugeLength_7cf53_8 : decode cJ8_hugeLength_7cf53 8 = .ok (.new 204, 3) := by decide +kernel
theorem dJ8_hugeLength_7cf53_11 : decode cJ8_hugeLength_7cf53 11 = .ok (.dup, 1) := by decide +kernel
theorem dJ8_hugeLength_7cf53_12 : decode cJ8_hugeLength_7cf53 12 = .ok (.new 89, 3) := by decide +kernel
theorem dJ8_hugeLength_7cf53_15 : decode cJ8_hugeLength_7cf53 15 = .ok (.dup, 1) := by decide +kernel
theorem dJ8_hugeLength_7cf53_16 : decode cJ8_hugeLength_7cf53 16 = .ok (.invokespecial 91, 3) := by decide +kernel
theorem dJ8_hugeLength_7cf53_19 : decode cJ8_hugeLength_7cf53 19 = .ok (.ldc 206, 2) := by decide +kernel
theorem dJ8_hugeLength_7cf53_21 : decode cJ8_hugeLength_7cf53 21 = .ok (.invokevirtual 94, 3) := by decide +kernel
theorem dJ8_hugeLength_7cf53_24 : decode cJ8_hugeLength_7cf53 24 = .ok (.iload_n 0, 1) := by decide +kernel
theorem dJ8_hugeLength_7cf53_25 : decode cJ8_hugeLength_7cf53 25 = .ok (.invokevirtual 98, 3) := by decide +kernel
theorem dJ8_hugeLength_7cf53_28 : decode cJ8_hugeLength_7cf53 28 = .ok (.ldc 208, 2) := by decide +kernel
theorem dJ8_hugeLength_7cf53_30 : decode cJ8_hugeLength_7cf53 30 = .ok (.invokevirtual 94, 3) := by decide +kernel
theorem dJ8_hugeLength_7cf53_33 : decode cJ8_hugeLength_7cf53 33 = .ok (.iload_n 1, 1) := by decide +kernel
theorem dJ8_hugeLength_7cf53_34 : decode cJ8_hugeLength_7cf53 34 = .ok (.invokevirtual 98, 3) := by decide +kernel
theorem dJ8_hugeLength_7cf53_37 : decode cJ8_hugeLength_7cf53 37 = .ok (.ldc 210, 2) := by decide +kernel
theorem dJ8_hugeLength_7cf53_39 : decode cJ8_hugeLength_7cf53 39 = .ok (.invokevirtual 94, 3) := by decide +kernel
theorem dJ8_hugeLength_7cf53_42 : decode cJ8_hugeLength_7cf53 42 = .ok (.invokevirtual 101, 3) := by decide +kernel
theorem dJ8_hugeLength_7cf53_45 : decode cJ8_hugeLength_7cf53 45 = .ok (.invokespecial 212, 3) := by decide +kernel
theorem dJ8_hugeLength_7cf53_48 : decode cJ8_hugeLength_7cf53 48 = .ok (.athrow, 1) := by decide +kernel
theorem dJ8_hugeLength_7cf53_49 : decode cJ8_hugeLength_7cf53 49 = .ok (.iload_n 2, 1) := by decide +kernel
theorem dJ8_hugeLength_7cf53_50 : decode cJ8_hugeLength_7cf53 50 = .ok (.ldc 200, 2) := by decide +kernel
theorem dJ8_hugeLength_7cf53_52 : decode cJ8_hugeLength_7cf53 52 = .ok (.if_icmp .gt 6, 3) := by decide +kernel
theorem dJ8_hugeLength_7cf53_55 : decode cJ8_hugeLength_7cf53 55 = .ok (.ldc 200, 2) := by decide +kernel
theorem dJ8_hugeLength_7cf53_57 : decode cJ8_hugeLength_7cf53 57 = .ok (.ireturn, 1) := by decide +kernel
theorem dJ8_hugeLength_7cf53_58 : decode cJ8_hugeLength_7cf53 58 = .ok (.iload_n 2, 1) := by decide +kernel
theorem dJ8_hugeLength_7cf53_59 : decode cJ8_hugeLength_7cf53 59 = .ok (.ireturn, 1) := by decide +kernel
theorem dJ3_checkIndex_8e157_0 : decode cJ3_checkIndex_8e157 0 = .ok (.iload_n 0, 1) := by decide +kernel
theorem dJ3_checkIndex_8e157_1 : decode cJ3_checkIndex_8e157 1 = .ok (.ifCond .lt 8, 3) := by decide +kernel
theorem dJ3_checkIndex_8e157_4 : decode cJ3_checkIndex_8e157 4 = .ok (.iload_n 0, 1) := by decide +kernel
theorem dJ3_checkIndex_8e157_5 : decode cJ3_checkIndex_8e157 5 = .ok (.iload_n 1, 1) := by decide +kernel
theorem dJ3_checkIndex_8e157_6 : decode cJ3_checkIndex_8e157 6 = .ok (.if_icmp .lt 10, 3) := by decide +kernel
theorem dJ3_checkIndex_8e157_9 : decode cJ3_checkIndex_8e157 9 = .ok (.aload_n 2, 1) := by decide +kernel
theorem dJ3_checkIndex_8e157_10 : decode cJ3_checkIndex_8e157 10 = .ok (.iload_n 0, 1) := by decide +kernel
theorem dJ3_checkIndex_8e157_11 : decode cJ3_checkIndex_8e157 11 = .ok (.iload_n 1, 1) := by decide +kernel
theorem dJ3_checkIndex_8e157_12 : decode cJ3_checkIndex_8e157 12 = .ok (.invokestatic 95, 3) := by decide +kernel
theorem dJ3_checkIndex_8e157_15 : decode cJ3_checkIndex_8e157 15 = .ok (.athrow, 1) := by decide +kernel
theorem dJ3_checkIndex_8e157_16 : decode cJ3_checkIndex_8e157 16 = .ok (.iload_n 0, 1) := by decide +kernel
theorem dJ3_checkIndex_8e157_17 : decode cJ3_checkIndex_8e157 17 = .ok (.ireturn, 1) := by decide +kernel
set_option maxRecDepth 20000 in
theorem ggL_law_X5_init : GoodIn wsL_law wsX5_init := goodIn_r _ [8, 9, 10, 11, 12, 13, 14, 15, 16, 17, 18, 19, 20, 21, 22, 23, 24, 25, 26, 27, 28, 29, 30, 31, 32, 33, 34, 35, 36, 37, 38, 39, 40, 41, 42, 43, 44, 45, 46, 47, 48, 49, 50, 51, 52, 53, 54, 55, 56, 57, 58, 59, 60, 61, 62, 833, 834, 835, 790, 791, 792, 793, 794, 795, 796, 797, 798, 799, 800, 801, 836, 837, 838, 839, 840] (by decide +kernel) (by decide +kernel)
set_option maxRecDepth 20000 in
theorem gL_law_X5_init : GoodIn wsL_law (wsX5_init) := ggL_law_X5_init
set_option maxRecDepth 20000 in
theorem ggL_law_X6_init : GoodIn wsL_law wsX6_init := goodIn_r _ [65, 66, 10, 11, 24, 67, 37, 68, 69, 70, 71, 72, 73, 74, 75, 76, 77, 78, 79, 80, 81, 82, 83, 84, 85, 86, 87, 88, 89, 90, 802, 803, 804, 805, 806, 807, 808, 809, 810, 811, 812, 813, 814, 815, 816, 817, 818, 819, 820, 821, 822, 823, 824, 825, 826, 827, 828, 829, 830, 831, 832] (by decide +kernel) (by decide +kernel)
set_option maxRecDepth 20000 in
theorem gL_law_X6_init : GoodIn wsL_law (wsX6_init) := ggL_law_X6_init
set_option maxRecDepth 20000 in
theorem ggL_law_X5_land : GoodIn wsL_law wsX5_land := goodIn_r _ [94, 15, 95, 96, 2, 97, 98, 99, 100, 14, 101, 38, 102, 103, 104, 105, 790, 791, 792, 793, 794, 795, 796, 797, 798, 799, 800, 801, 833, 834, 835] (by decide +kernel) (by decide +kernel)
set_option maxRecDepth 20000 in
theorem gL_law_X5_land : GoodIn wsL_law (wsV RL 13 RX5 yX5_land wsX5_land) := goodIn_app (goodIn_r (big := wsL_law) ([.methodLink RL 13 yX5_land, .instanceMethod yX5_land, .selects RX5 yX5_land yX5_land, .initialized RX5] : List Cond) [91, 92, 93, 2] (by decide +kernel) (by decide +kernel)) ggL_law_X5_land
set_option maxRecDepth 20000 in
theorem ggL_law_X6_land : GoodIn wsL_law wsX6_land := goodIn_r _ [109, 68, 110, 111, 5, 112, 113, 114, 115, 802, 803, 804, 805, 806, 807, 808, 809, 810, 811, 812, 813, 814, 815, 816, 817, 818, 819, 820, 821, 822, 823, 824, 825, 826, 827, 828, 829, 830, 831, 832] (by decide +kernel) (by decide +kernel)
set_option maxRecDepth 20000 in
theorem gL_law_X6_land : GoodIn wsL_law (wsV RL 17 RX6 yX6_land wsX6_land) := goodIn_app (goodIn_r (big := wsL_law) ([.methodLink RL 17 yX6_land, .instanceMethod yX6_land, .selects RX6 yX6_land yX6_land, .initialized RX6] : List Cond) [106, 107, 108, 5] (by decide +kernel) (by decide +kernel)) ggL_law_X6_land
set_option maxRecDepth 20000 in
theorem ggL_law_X5_chart : GoodIn wsL_law wsX5_chart := goodIn_r _ [119, 15, 95, 96, 2, 97, 120, 121, 122, 14, 123, 39, 124, 125, 126, 127, 42, 128, 129, 130, 131, 790, 791, 792, 793, 794, 795, 796, 797, 798, 799, 800, 801, 833, 834, 835] (by decide +kernel) (by decide +kernel)
set_option maxRecDepth 20000 in
theorem gL_law_X5_chart : GoodIn wsL_law (wsV RL 18 RX5 yX5_chart wsX5_chart) := goodIn_app (goodIn_r (big := wsL_law) ([.methodLink RL 18 yX5_chart, .instanceMethod yX5_chart, .selects RX5 yX5_chart yX5_chart, .initialized RX5] : List Cond) [116, 117, 118, 2] (by decide +kernel) (by decide +kernel)) ggL_law_X5_chart
set_option maxRecDepth 20000 in
theorem ggL_law_X6_chart : GoodIn wsL_law wsX6_chart := goodIn_r _ [135, 69, 70, 136, 137, 5, 138, 113, 114, 115, 802, 803, 804, 805, 806, 807, 808, 809, 810, 811, 812, 813, 814, 815, 816, 817, 818, 819, 820, 821, 822, 823, 824, 825, 826, 827, 828, 829, 830, 831, 832] (by decide +kernel) (by decide +kernel)
set_option maxRecDepth 20000 in
theorem gL_law_X6_chart : GoodIn wsL_law (wsV RL 22 RX6 yX6_chart wsX6_chart) := goodIn_app (goodIn_r (big := wsL_law) ([.methodLink RL 22 yX6_chart, .instanceMethod yX6_chart, .selects RX6 yX6_chart yX6_chart, .initialized RX6] : List Cond) [132, 133, 134, 5] (by decide +kernel) (by decide +kernel)) ggL_law_X6_chart
set_option maxRecDepth 20000 in
theorem ggL_law_X5_wind : GoodIn wsL_law wsX5_wind := goodIn_r _ [142, 15, 95, 96, 2, 97, 120, 121, 122, 14, 123, 39, 143, 144, 145, 146, 26, 25, 147, 148, 149, 150, 42, 151, 152, 153, 154, 155, 790, 791, 792, 793, 794, 795, 796, 797, 798, 799, 800, 801, 833, 834, 835] (by decide +kernel) (by decide +kernel)
set_option maxRecDepth 20000 in
theorem gL_law_X5_wind : GoodIn wsL_law (wsV RL 23 RX5 yX5_wind wsX5_wind) := goodIn_app (goodIn_r (big := wsL_law) ([.methodLink RL 23 yX5_wind, .instanceMethod yX5_wind, .selects RX5 yX5_wind yX5_wind, .initialized RX5] : List Cond) [139, 140, 141, 2] (by decide +kernel) (by decide +kernel)) ggL_law_X5_wind
set_option maxRecDepth 20000 in
theorem ggL_law_X6_wind : GoodIn wsL_law wsX6_wind := goodIn_r _ [159, 70, 160, 161, 162, 5, 163, 69, 136, 137, 138, 113, 114, 115, 164, 165, 166, 167, 168, 67, 110, 111, 112, 802, 803, 804, 805, 806, 807, 808, 809, 810, 811, 812, 813, 814, 815, 816, 817, 818, 819, 820, 821, 822, 823, 824, 825, 826, 827, 828, 829, 830, 831, 832] (by decide +kernel) (by decide +kernel)
set_option maxRecDepth 20000 in
theorem gL_law_X6_wind : GoodIn wsL_law (wsV RL 27 RX6 yX6_wind wsX6_wind) := goodIn_app (goodIn_r (big := wsL_law) ([.methodLink RL 27 yX6_wind, .instanceMethod yX6_wind, .selects RX6 yX6_wind yX6_wind, .initialized RX6] : List Cond) [156, 157, 158, 5] (by decide +kernel) (by decide +kernel)) ggL_law_X6_wind
set_option maxRecDepth 20000 in
theorem ggL_law_X5_tear : GoodIn wsL_law wsX5_tear := goodIn_r _ [172, 15, 95, 96, 2, 97, 120, 121, 122, 14, 123, 39, 143, 144, 145, 146, 26, 25, 173, 174, 175, 176, 790, 791, 792, 793, 794, 795, 796, 797, 798, 799, 800, 801, 833, 834, 835] (by decide +kernel) (by decide +kernel)
set_option maxRecDepth 20000 in
theorem gL_law_X5_tear : GoodIn wsL_law (wsV RL 28 RX5 yX5_tear wsX5_tear) := goodIn_app (goodIn_r (big := wsL_law) ([.methodLink RL 28 yX5_tear, .instanceMethod yX5_tear, .selects RX5 yX5_tear yX5_tear, .initialized RX5] : List Cond) [169, 170, 171, 2] (by decide +kernel) (by decide +kernel)) ggL_law_X5_tear
set_option maxRecDepth 20000 in
theorem ggL_law_X6_tear : GoodIn wsL_law wsX6_tear := goodIn_r _ [180, 69, 160, 161, 162, 5, 163, 136, 137, 138, 113, 114, 115, 164, 165, 166, 167, 168, 67, 802, 803, 804, 805, 806, 807, 808, 809, 810, 811, 812, 813, 814, 815, 816, 817, 818, 819, 820, 821, 822, 823, 824, 825, 826, 827, 828, 829, 830, 831, 832] (by decide +kernel) (by decide +kernel)
set_option maxRecDepth 20000 in
theorem gL_law_X6_tear : GoodIn wsL_law (wsV RL 31 RX6 yX6_tear wsX6_tear) := goodIn_app (goodIn_r (big := wsL_law) ([.methodLink RL 31 yX6_tear, .instanceMethod yX6_tear, .selects RX6 yX6_tear yX6_tear, .initialized RX6] : List Cond) [177, 178, 179, 5] (by decide +kernel) (by decide +kernel)) ggL_law_X6_tear
set_option maxRecDepth 20000 in
theorem ggL_law_X5_copy : GoodIn wsL_law wsX5_copy := goodIn_r _ [184, 15, 95, 96, 2, 97, 143, 144, 145, 146, 26, 25, 120, 121, 122, 14, 123, 39, 185, 186, 187, 188, 42, 189, 190, 191, 192, 151, 790, 791, 792, 793, 794, 795, 796, 797, 798, 799, 800, 801, 833, 834, 835] (by decide +kernel) (by decide +kernel)
set_option maxRecDepth 20000 in
theorem gL_law_X5_copy : GoodIn wsL_law (wsV RL 32 RX5 yX5_copy wsX5_copy) := goodIn_app (goodIn_r (big := wsL_law) ([.methodLink RL 32 yX5_copy, .instanceMethod yX5_copy, .selects RX5 yX5_copy yX5_copy, .initialized RX5] : List Cond) [181, 182, 183, 2] (by decide +kernel) (by decide +kernel)) ggL_law_X5_copy
set_option maxRecDepth 20000 in
theorem ggL_law_X6_copy : GoodIn wsL_law wsX6_copy := goodIn_r _ [196, 69, 197, 71, 70, 136, 137, 5, 138, 113, 114, 115, 164, 165, 166, 167, 168, 67, 802, 803, 804, 805, 806, 807, 808, 809, 810, 811, 812, 813, 814, 815, 816, 817, 818, 819, 820, 821, 822, 823, 824, 825, 826, 827, 828, 829, 830, 831, 832] (by decide +kernel) (by decide +kernel)
set_option maxRecDepth 20000 in
theorem gL_law_X6_copy : GoodIn wsL_law (wsV RL 36 RX6 yX6_copy wsX6_copy) := goodIn_app (goodIn_r (big := wsL_law) ([.methodLink RL 36 yX6_copy, .instanceMethod yX6_copy, .selects RX6 yX6_copy yX6_copy, .initialized RX6] : List Cond) [193, 194, 195, 5] (by decide +kernel) (by decide +kernel)) ggL_law_X6_copy
set_option maxRecDepth 20000 in
theorem ggL_law_X5_mean : GoodIn wsL_law wsX5_mean := goodIn_r _ [201, 15, 95, 96, 2, 97, 120, 121, 122, 14, 123, 39, 143, 144, 145, 146, 26, 25, 202, 203, 204, 205, 42, 206, 207, 208, 790, 791, 792, 793, 794, 795, 796, 797, 798, 799, 800, 801, 833, 834, 835] (by decide +kernel) (by decide +kernel)
set_option maxRecDepth 20000 in
theorem gL_law_X5_mean : GoodIn wsL_law (wsV RL 37 RX5 yX5_mean wsX5_mean) := goodIn_app (goodIn_r (big := wsL_law) ([.methodLink RL 37 yX5_mean, .instanceMethod yX5_mean, .selects RX5 yX5_mean yX5_mean, .initialized RX5] : List Cond) [198, 199, 200, 2] (by decide +kernel) (by decide +kernel)) ggL_law_X5_mean
set_option maxRecDepth 20000 in
theorem ggL_law_X6_mean : GoodIn wsL_law wsX6_mean := goodIn_r _ [212, 70, 160, 161, 162, 5, 163, 69, 136, 137, 138, 113, 114, 115, 164, 165, 166, 167, 168, 67, 213, 214, 215, 802, 803, 804, 805, 806, 807, 808, 809, 810, 811, 812, 813, 814, 815, 816, 817, 818, 819, 820, 821, 822, 823, 824, 825, 826, 827, 828, 829, 830, 831, 832] (by decide +kernel) (by decide +kernel)
set_option maxRecDepth 20000 in
theorem gL_law_X6_mean : GoodIn wsL_law (wsV RL 40 RX6 yX6_mean wsX6_mean) := goodIn_app (goodIn_r (big := wsL_law) ([.methodLink RL 40 yX6_mean, .instanceMethod yX6_mean, .selects RX6 yX6_mean yX6_mean, .initialized RX6] : List Cond) [209, 210, 211, 5] (by decide +kernel) (by decide +kernel)) ggL_law_X6_mean
set_option maxRecDepth 20000 in
theorem ggL_law_X5_ship : GoodIn wsL_law wsX5_ship := goodIn_r _ [219, 23, 27, 220, 221, 222, 95, 96, 2, 97, 223, 224, 225, 226, 15, 98, 99, 100, 14, 101, 38, 227, 228, 229, 22, 230, 231, 232, 233, 234, 235, 10, 11, 236, 21, 237, 238, 239, 240, 241, 242, 243, 244, 245, 246, 247, 248, 249, 250, 251, 49, 50, 51, 52, 53, 54, 55, 56, 57, 58, 59, 60, 61, 62, 252, 253, 254, 255, 256, 257, 258, 259, 260, 261, 262, 263, 264, 265, 266, 267, 268, 269, 270, 271, 272, 273, 274, 275, 276, 277, 278, 279, 280, 281, 282, 283, 284, 285, 130, 286, 287, 288, 289, 290, 291, 292, 293, 294, 295, 296, 297, 298, 299, 190, 191, 192, 790, 791, 792, 793, 794, 795, 796, 797, 798, 799, 800, 801, 841, 842, 843, 844, 845, 846, 847, 848, 849, 850, 851, 852, 853, 854, 833, 834, 835, 838, 839, 840] (by decide +kernel) (by decide +kernel)
set_option maxRecDepth 20000 in
theorem gL_law_X5_ship : GoodIn wsL_law (wsV RL 41 RX5 yX5_ship wsX5_ship) := goodIn_app (goodIn_r (big := wsL_law) ([.methodLink RL 41 yX5_ship, .instanceMethod yX5_ship, .selects RX5 yX5_ship yX5_ship, .initialized RX5] : List Cond) [216, 217, 218, 2] (by decide +kernel) (by decide +kernel)) ggL_law_X5_ship
set_option maxRecDepth 20000 in
theorem ggL_law_X6_ship : GoodIn wsL_law wsX6_ship := goodIn_r _ [303, 68, 304, 305, 72, 73, 77, 76, 113, 114, 5, 115, 110, 111, 112, 802, 803, 804, 805, 806, 807, 808, 809, 810, 811, 812, 813, 814, 815, 816, 817, 818, 819, 820, 821, 822, 823, 824, 825, 826, 827, 828, 829, 830, 831, 832] (by decide +kernel) (by decide +kernel)
set_option maxRecDepth 20000 in
theorem gL_law_X6_ship : GoodIn wsL_law (wsV RL 44 RX6 yX6_ship wsX6_ship) := goodIn_app (goodIn_r (big := wsL_law) ([.methodLink RL 44 yX6_ship, .instanceMethod yX6_ship, .selects RX6 yX6_ship yX6_ship, .initialized RX6] : List Cond) [300, 301, 302, 5] (by decide +kernel) (by decide +kernel)) ggL_law_X6_ship
set_option maxRecDepth 20000 in
theorem ggL_law_X5_foul : GoodIn wsL_law wsX5_foul := goodIn_r _ [309, 310, 311, 312, 313, 2, 314, 23, 315, 227, 228, 229, 22, 230, 231, 316, 317, 318, 319, 320, 321, 322, 323, 324, 325, 326, 327, 328, 329, 330, 331, 52, 95, 96, 97, 841, 842, 843, 844, 845, 846, 847, 848, 849, 850, 851, 852, 853, 854, 790, 791, 792, 793, 794, 795, 796, 797, 798, 799, 800, 801, 838, 839, 840] (by decide +kernel) (by decide +kernel)
set_option maxRecDepth 20000 in
theorem gL_law_X5_foul : GoodIn wsL_law (wsV RL 45 RX5 yX5_foul wsX5_foul) := goodIn_app (goodIn_r (big := wsL_law) ([.methodLink RL 45 yX5_foul, .instanceMethod yX5_foul, .selects RX5 yX5_foul yX5_foul, .initialized RX5] : List Cond) [306, 307, 308, 2] (by decide +kernel) (by decide +kernel)) ggL_law_X5_foul
set_option maxRecDepth 20000 in
theorem ggL_law_X6_foul : GoodIn wsL_law wsX6_foul := goodIn_r _ [335, 78, 336, 337, 338, 5, 339, 304, 113, 114, 115, 802, 803, 804, 805, 806, 807, 808, 809, 810, 811, 812, 813, 814, 815, 816, 817, 818, 819, 820, 821, 822, 823, 824, 825, 826, 827, 828, 829, 830, 831, 832] (by decide +kernel) (by decide +kernel)
set_option maxRecDepth 20000 in
theorem gL_law_X6_foul : GoodIn wsL_law (wsV RL 49 RX6 yX6_foul wsX6_foul) := goodIn_app (goodIn_r (big := wsL_law) ([.methodLink RL 49 yX6_foul, .instanceMethod yX6_foul, .selects RX6 yX6_foul yX6_foul, .initialized RX6] : List Cond) [332, 333, 334, 5] (by decide +kernel) (by decide +kernel)) ggL_law_X6_foul
set_option maxRecDepth 20000 in
theorem ggL_law_X5_told : GoodIn wsL_law wsX5_told := goodIn_r _ [343, 344, 345, 346, 347, 348, 349, 350, 311, 312, 313, 2, 314, 23, 315, 227, 228, 229, 22, 230, 231, 316, 317, 318, 319, 320, 321, 322, 323, 324, 325, 326, 327, 328, 329, 330, 331, 52, 841, 842, 843, 844, 845, 846, 847, 848, 849, 850, 851, 852, 853, 854, 790, 791, 792, 793, 794, 795, 796, 797, 798, 799, 800, 801, 838, 839, 840] (by decide +kernel) (by decide +kernel)
set_option maxRecDepth 20000 in
theorem gL_law_X5_told : GoodIn wsL_law (wsV RL 50 RX5 yX5_told wsX5_told) := goodIn_app (goodIn_r (big := wsL_law) ([.methodLink RL 50 yX5_told, .instanceMethod yX5_told, .selects RX5 yX5_told yX5_told, .initialized RX5] : List Cond) [340, 341, 342, 2] (by decide +kernel) (by decide +kernel)) ggL_law_X5_told
set_option maxRecDepth 20000 in
theorem ggL_law_X6_told : GoodIn wsL_law wsX6_told := goodIn_r _ [354, 336, 337, 338, 5, 339, 304, 113, 114, 115, 355, 356, 357, 358, 72, 73, 74, 75, 76, 77, 359, 360, 361, 362, 363, 802, 803, 804, 805, 806, 807, 808, 809, 810, 811, 812, 813, 814, 815, 816, 817, 818, 819, 820, 821, 822, 823, 824, 825, 826, 827, 828, 829, 830, 831, 832] (by decide +kernel) (by decide +kernel)
set_option maxRecDepth 20000 in
theorem gL_law_X6_told : GoodIn wsL_law (wsV RL 53 RX6 yX6_told wsX6_told) := goodIn_app (goodIn_r (big := wsL_law) ([.methodLink RL 53 yX6_told, .instanceMethod yX6_told, .selects RX6 yX6_told yX6_told, .initialized RX6] : List Cond) [351, 352, 353, 5] (by decide +kernel) (by decide +kernel)) ggL_law_X6_told
set_option maxRecDepth 20000 in
theorem ggL_law_X5_mark : GoodIn wsL_law wsX5_mark := goodIn_r _ [367, 368, 347, 369, 311, 312, 313, 2, 314, 23, 315, 227, 228, 229, 22, 230, 231, 316, 317, 318, 319, 320, 321, 322, 323, 324, 325, 326, 327, 328, 329, 330, 331, 52, 370, 371, 372, 222, 373, 248, 143, 144, 145, 146, 26, 25, 374, 375, 376, 377, 241, 378, 271, 272, 273, 379, 380, 381, 382, 383, 384, 297, 298, 207, 208, 385, 386, 387, 388, 389, 390, 391, 392, 841, 842, 843, 844, 845, 846, 847, 848, 849, 850, 851, 852, 853, 854, 790, 791, 792, 793, 794, 795, 796, 797, 798, 799, 800, 801, 838, 839, 840] (by decide +kernel) (by decide +kernel)
set_option maxRecDepth 20000 in
theorem gL_law_X5_mark : GoodIn wsL_law (wsV RL 54 RX5 yX5_mark wsX5_mark) := goodIn_app (goodIn_r (big := wsL_law) ([.methodLink RL 54 yX5_mark, .instanceMethod yX5_mark, .selects RX5 yX5_mark yX5_mark, .initialized RX5] : List Cond) [364, 365, 366, 2] (by decide +kernel) (by decide +kernel)) ggL_law_X5_mark
set_option maxRecDepth 20000 in
theorem ggL_law_X6_mark : GoodIn wsL_law wsX6_mark := goodIn_r _ [396, 72, 80, 79, 336, 337, 338, 5, 339, 304, 113, 114, 115, 164, 165, 166, 167, 168, 67, 397, 398, 399, 400, 78, 802, 803, 804, 805, 806, 807, 808, 809, 810, 811, 812, 813, 814, 815, 816, 817, 818, 819, 820, 821, 822, 823, 824, 825, 826, 827, 828, 829, 830, 831, 832] (by decide +kernel) (by decide +kernel)
set_option maxRecDepth 20000 in
theorem gL_law_X6_mark : GoodIn wsL_law (wsV RL 57 RX6 yX6_mark wsX6_mark) := goodIn_app (goodIn_r (big := wsL_law) ([.methodLink RL 57 yX6_mark, .instanceMethod yX6_mark, .selects RX6 yX6_mark yX6_mark, .initialized RX6] : List Cond) [393, 394, 395, 5] (by decide +kernel) (by decide +kernel)) ggL_law_X6_mark
set_option maxRecDepth 20000 in
theorem ggL_law_X5_speed : GoodIn wsL_law wsX5_speed := goodIn_r _ [404, 311, 312, 313, 2, 314, 23, 315, 227, 228, 229, 22, 230, 231, 316, 317, 318, 319, 320, 321, 322, 323, 324, 325, 326, 327, 328, 329, 330, 331, 52, 95, 96, 97, 374, 375, 376, 222, 377, 248, 241, 378, 271, 272, 273, 379, 380, 381, 382, 383, 384, 297, 298, 207, 208, 385, 386, 387, 388, 389, 390, 391, 392, 790, 791, 792, 793, 794, 795, 796, 797, 798, 799, 800, 801, 838, 839, 840, 841, 842, 843, 844, 845, 846, 847, 848, 849, 850, 851, 852, 853, 854] (by decide +kernel) (by decide +kernel)
set_option maxRecDepth 20000 in
theorem gL_law_X5_speed : GoodIn wsL_law (wsV RL 58 RX5 yX5_speed wsX5_speed) := goodIn_app (goodIn_r (big := wsL_law) ([.methodLink RL 58 yX5_speed, .instanceMethod yX5_speed, .selects RX5 yX5_speed yX5_speed, .initialized RX5] : List Cond) [401, 402, 403, 2] (by decide +kernel) (by decide +kernel)) ggL_law_X5_speed
set_option maxRecDepth 20000 in
theorem ggL_law_X6_speed : GoodIn wsL_law wsX6_speed := goodIn_r _ [408, 336, 337, 338, 5, 339, 304, 113, 114, 115, 409, 410, 411, 397, 398, 399, 400, 72, 78, 802, 803, 804, 805, 806, 807, 808, 809, 810, 811, 812, 813, 814, 815, 816, 817, 818, 819, 820, 821, 822, 823, 824, 825, 826, 827, 828, 829, 830, 831, 832] (by decide +kernel) (by decide +kernel)
set_option maxRecDepth 20000 in
theorem gL_law_X6_speed : GoodIn wsL_law (wsV RL 62 RX6 yX6_speed wsX6_speed) := goodIn_app (goodIn_r (big := wsL_law) ([.methodLink RL 62 yX6_speed, .instanceMethod yX6_speed, .selects RX6 yX6_speed yX6_speed, .initialized RX6] : List Cond) [405, 406, 407, 5] (by decide +kernel) (by decide +kernel)) ggL_law_X6_speed
set_option maxRecDepth 20000 in
theorem ggL_law_X5_order : GoodIn wsL_law wsX5_order := goodIn_r _ [415, 368, 416, 417, 418, 311, 312, 313, 2, 314, 23, 315, 227, 228, 229, 22, 230, 231, 316, 317, 318, 319, 320, 321, 322, 323, 324, 325, 326, 327, 328, 329, 330, 331, 52, 419, 420, 421, 95, 96, 97, 422, 423, 424, 425, 10, 11, 426, 427, 428, 429, 430, 431, 252, 253, 254, 255, 256, 257, 258, 259, 260, 261, 262, 263, 264, 265, 266, 267, 268, 269, 51, 270, 271, 272, 273, 274, 275, 276, 277, 278, 279, 280, 281, 282, 283, 284, 285, 130, 286, 287, 288, 289, 290, 291, 292, 293, 294, 295, 296, 297, 298, 299, 190, 191, 192, 841, 842, 843, 844, 845, 846, 847, 848, 849, 850, 851, 852, 853, 854, 855, 856, 857, 858, 859, 860, 790, 791, 792, 793, 794, 795, 796, 797, 798, 799, 800, 801, 838, 839, 840] (by decide +kernel) (by decide +kernel)
set_option maxRecDepth 20000 in
theorem gL_law_X5_order : GoodIn wsL_law (wsV RL 63 RX5 yX5_order wsX5_order) := goodIn_app (goodIn_r (big := wsL_law) ([.methodLink RL 63 yX5_order, .instanceMethod yX5_order, .selects RX5 yX5_order yX5_order, .initialized RX5] : List Cond) [412, 413, 414, 2] (by decide +kernel) (by decide +kernel)) ggL_law_X5_order
set_option maxRecDepth 20000 in
theorem ggL_law_X6_order : GoodIn wsL_law wsX6_order := goodIn_r _ [435, 80, 81, 336, 337, 338, 5, 339, 304, 113, 114, 115, 409, 410, 411, 802, 803, 804, 805, 806, 807, 808, 809, 810, 811, 812, 813, 814, 815, 816, 817, 818, 819, 820, 821, 822, 823, 824, 825, 826, 827, 828, 829, 830, 831, 832] (by decide +kernel) (by decide +kernel)
set_option maxRecDepth 20000 in
theorem gL_law_X6_order : GoodIn wsL_law (wsV RL 67 RX6 yX6_order wsX6_order) := goodIn_app (goodIn_r (big := wsL_law) ([.methodLink RL 67 yX6_order, .instanceMethod yX6_order, .selects RX6 yX6_order yX6_order, .initialized RX6] : List Cond) [432, 433, 434, 5] (by decide +kernel) (by decide +kernel)) ggL_law_X6_order
set_option maxRecDepth 20000 in
theorem ggL_law_X5_home : GoodIn wsL_law wsX5_home := goodIn_r _ [439, 27, 28, 29, 223, 224, 225, 2, 226, 15, 95, 96, 97, 98, 99, 100, 14, 101, 38, 790, 791, 792, 793, 794, 795, 796, 797, 798, 799, 800, 801, 833, 834, 835] (by decide +kernel) (by decide +kernel)
set_option maxRecDepth 20000 in
theorem gL_law_X5_home : GoodIn wsL_law (wsV RL 68 RX5 yX5_home wsX5_home) := goodIn_app (goodIn_r (big := wsL_law) ([.methodLink RL 68 yX5_home, .instanceMethod yX5_home, .selects RX5 yX5_home yX5_home, .initialized RX5] : List Cond) [436, 437, 438, 2] (by decide +kernel) (by decide +kernel)) ggL_law_X5_home
set_option maxRecDepth 20000 in
theorem ggL_law_X6_home : GoodIn wsL_law wsX6_home := goodIn_r _ [443, 68, 305, 444, 363, 110, 111, 5, 112, 113, 114, 115, 802, 803, 804, 805, 806, 807, 808, 809, 810, 811, 812, 813, 814, 815, 816, 817, 818, 819, 820, 821, 822, 823, 824, 825, 826, 827, 828, 829, 830, 831, 832] (by decide +kernel) (by decide +kernel)
set_option maxRecDepth 20000 in
theorem gL_law_X6_home : GoodIn wsL_law (wsV RL 71 RX6 yX6_home wsX6_home) := goodIn_app (goodIn_r (big := wsL_law) ([.methodLink RL 71 yX6_home, .instanceMethod yX6_home, .selects RX6 yX6_home yX6_home, .initialized RX6] : List Cond) [440, 441, 442, 5] (by decide +kernel) (by decide +kernel)) ggL_law_X6_home
set_option maxRecDepth 20000 in
theorem ggL_law_X5_run : GoodIn wsL_law wsX5_run := goodIn_r _ [448, 449, 27, 23, 315, 95, 96, 2, 97, 450, 451, 452, 453, 227, 228, 229, 22, 230, 231, 316, 317, 318, 319, 320, 321, 322, 323, 324, 325, 326, 327, 328, 329, 330, 331, 52, 454, 455, 456, 222, 457, 243, 458, 459, 460, 461, 15, 345, 347, 346, 462, 463, 464, 465, 466, 467, 468, 202, 203, 204, 14, 205, 39, 42, 469, 470, 471, 472, 237, 473, 249, 474, 240, 475, 476, 207, 208, 477, 478, 479, 418, 480, 426, 427, 428, 429, 430, 374, 375, 376, 377, 248, 241, 378, 271, 272, 273, 379, 380, 381, 382, 383, 384, 297, 298, 385, 386, 387, 388, 389, 390, 391, 392, 481, 482, 483, 484, 485, 486, 487, 488, 489, 490, 491, 492, 99, 100, 101, 38, 493, 494, 495, 496, 369, 28, 348, 349, 497, 498, 499, 500, 29, 790, 791, 792, 793, 794, 795, 796, 797, 798, 799, 800, 801, 838, 839, 840, 841, 842, 843, 844, 845, 846, 847, 848, 849, 850, 851, 852, 853, 854, 833, 834, 835, 855, 856, 857, 858, 859, 860] (by decide +kernel) (by decide +kernel)
set_option maxRecDepth 20000 in
theorem gL_law_X5_run : GoodIn wsL_law (wsV RL 72 RX5 yX5_run wsX5_run) := goodIn_app (goodIn_r (big := wsL_law) ([.methodLink RL 72 yX5_run, .instanceMethod yX5_run, .selects RX5 yX5_run yX5_run, .initialized RX5] : List Cond) [445, 446, 447, 2] (by decide +kernel) (by decide +kernel)) ggL_law_X5_run
set_option maxRecDepth 20000 in
theorem ggL_law_X6_run : GoodIn wsL_law wsX6_run := goodIn_r _ [504, 305, 505, 304, 76, 113, 114, 5, 115, 506, 507, 508, 509, 510, 511, 512, 513, 73, 74, 75, 79, 444, 514, 515, 516, 517, 80, 81, 518, 519, 520, 521, 69, 70, 397, 398, 399, 400, 72, 78, 522, 523, 524, 525, 526, 527, 528, 68, 802, 803, 804, 805, 806, 807, 808, 809, 810, 811, 812, 813, 814, 815, 816, 817, 818, 819, 820, 821, 822, 823, 824, 825, 826, 827, 828, 829, 830, 831, 832] (by decide +kernel) (by decide +kernel)
set_option maxRecDepth 20000 in
theorem gL_law_X6_run : GoodIn wsL_law (wsV RL 75 RX6 yX6_run wsX6_run) := goodIn_app (goodIn_r (big := wsL_law) ([.methodLink RL 75 yX6_run, .instanceMethod yX6_run, .selects RX6 yX6_run yX6_run, .initialized RX6] : List Cond) [501, 502, 503, 5] (by decide +kernel) (by decide +kernel)) ggL_law_X6_run
set_option maxRecDepth 20000 in
theorem ggL_law_X5_first : GoodIn wsL_law wsX5_first := goodIn_r _ [532, 533, 534, 535, 536, 2, 537, 23, 315, 227, 228, 229, 22, 230, 231, 316, 317, 318, 319, 320, 321, 322, 323, 324, 325, 326, 327, 328, 329, 330, 331, 52, 454, 455, 456, 222, 457, 243, 538, 539, 540, 541, 244, 247, 841, 842, 843, 844, 845, 846, 847, 848, 849, 850, 851, 852, 853, 854, 790, 791, 792, 793, 794, 795, 796, 797, 798, 799, 800, 801, 838, 839, 840] (by decide +kernel) (by decide +kernel)
set_option maxRecDepth 20000 in
theorem gL_law_X5_first : GoodIn wsL_law (wsV RL 76 RX5 yX5_first wsX5_first) := goodIn_app (goodIn_r (big := wsL_law) ([.methodLink RL 76 yX5_first, .instanceMethod yX5_first, .selects RX5 yX5_first yX5_first, .initialized RX5] : List Cond) [529, 530, 531, 2] (by decide +kernel) (by decide +kernel)) ggL_law_X5_first
set_option maxRecDepth 20000 in
theorem ggL_law_X6_first : GoodIn wsL_law wsX6_first := goodIn_r _ [545, 546, 547, 548, 5, 549, 304, 76, 359, 360, 361, 362, 363, 802, 803, 804, 805, 806, 807, 808, 809, 810, 811, 812, 813, 814, 815, 816, 817, 818, 819, 820, 821, 822, 823, 824, 825, 826, 827, 828, 829, 830, 831, 832] (by decide +kernel) (by decide +kernel)
set_option maxRecDepth 20000 in
theorem gL_law_X6_first : GoodIn wsL_law (wsV RL 80 RX6 yX6_first wsX6_first) := goodIn_app (goodIn_r (big := wsL_law) ([.methodLink RL 80 yX6_first, .instanceMethod yX6_first, .selects RX6 yX6_first yX6_first, .initialized RX6] : List Cond) [542, 543, 544, 5] (by decide +kernel) (by decide +kernel)) ggL_law_X6_first
set_option maxRecDepth 20000 in
theorem ggL_law_X5_least : GoodIn wsL_law wsX5_least := goodIn_r _ [553, 554, 19, 15, 311, 312, 313, 2, 314, 23, 315, 227, 228, 229, 22, 230, 231, 316, 317, 318, 319, 320, 321, 322, 323, 324, 325, 326, 327, 328, 329, 330, 331, 52, 223, 224, 225, 226, 95, 96, 97, 98, 99, 100, 14, 101, 38, 555, 556, 557, 18, 558, 46, 47, 559, 560, 561, 562, 563, 564, 565, 566, 567, 489, 490, 491, 492, 568, 569, 570, 571, 271, 272, 273, 482, 483, 463, 464, 465, 466, 467, 468, 572, 203, 204, 205, 39, 42, 573, 375, 376, 222, 377, 248, 241, 378, 379, 380, 381, 382, 383, 384, 297, 298, 207, 208, 385, 386, 387, 388, 389, 390, 391, 392, 574, 575, 576, 577, 578, 579, 580, 790, 791, 792, 793, 794, 795, 796, 797, 798, 799, 800, 801, 838, 839, 840, 833, 834, 835, 836, 837, 841, 842, 843, 844, 845, 846, 847, 848, 849, 850, 851, 852, 853, 854] (by decide +kernel) (by decide +kernel)
set_option maxRecDepth 20000 in
theorem gL_law_X5_least : GoodIn wsL_law (wsV RL 81 RX5 yX5_least wsX5_least) := goodIn_app (goodIn_r (big := wsL_law) ([.methodLink RL 81 yX5_least, .instanceMethod yX5_least, .selects RX5 yX5_least yX5_least, .initialized RX5] : List Cond) [550, 551, 552, 2] (by decide +kernel) (by decide +kernel)) ggL_law_X5_least
set_option maxRecDepth 20000 in
theorem ggL_law_X6_least : GoodIn wsL_law wsX6_least := goodIn_r _ [584, 68, 585, 84, 85, 336, 337, 338, 5, 339, 304, 113, 114, 115, 110, 111, 112, 525, 526, 527, 528, 586, 587, 588, 589, 522, 523, 524, 518, 519, 520, 521, 69, 70, 397, 398, 399, 400, 72, 78, 802, 803, 804, 805, 806, 807, 808, 809, 810, 811, 812, 813, 814, 815, 816, 817, 818, 819, 820, 821, 822, 823, 824, 825, 826, 827, 828, 829, 830, 831, 832] (by decide +kernel) (by decide +kernel)
set_option maxRecDepth 20000 in
theorem gL_law_X6_least : GoodIn wsL_law (wsV RL 84 RX6 yX6_least wsX6_least) := goodIn_app (goodIn_r (big := wsL_law) ([.methodLink RL 84 yX6_least, .instanceMethod yX6_least, .selects RX6 yX6_least yX6_least, .initialized RX6] : List Cond) [581, 582, 583, 5] (by decide +kernel) (by decide +kernel)) ggL_law_X6_least
set_option maxRecDepth 20000 in
theorem ggL_law_X5_sight : GoodIn wsL_law wsX5_sight := goodIn_r _ [593, 449, 30, 594, 595, 596, 597, 311, 312, 313, 2, 314, 23, 315, 227, 228, 229, 22, 230, 231, 316, 317, 318, 319, 320, 321, 322, 323, 324, 325, 326, 327, 328, 329, 330, 331, 52, 95, 96, 97, 598, 599, 600, 222, 601, 602, 603, 604, 605, 238, 606, 607, 475, 476, 608, 609, 610, 611, 10, 11, 612, 613, 252, 253, 254, 255, 256, 257, 258, 259, 260, 261, 262, 263, 264, 265, 266, 267, 268, 269, 51, 270, 271, 272, 273, 274, 275, 276, 277, 278, 279, 280, 281, 282, 283, 284, 285, 130, 286, 287, 288, 289, 290, 291, 292, 293, 294, 295, 296, 297, 298, 299, 190, 191, 192, 790, 791, 792, 793, 794, 795, 796, 797, 798, 799, 800, 801, 841, 842, 843, 844, 845, 846, 847, 848, 849, 850, 851, 852, 853, 854, 861, 862, 838, 839, 840] (by decide +kernel) (by decide +kernel)
set_option maxRecDepth 20000 in
theorem gL_law_X5_sight : GoodIn wsL_law (wsV RL 85 RX5 yX5_sight wsX5_sight) := goodIn_app (goodIn_r (big := wsL_law) ([.methodLink RL 85 yX5_sight, .instanceMethod yX5_sight, .selects RX5 yX5_sight yX5_sight, .initialized RX5] : List Cond) [590, 591, 592, 2] (by decide +kernel) (by decide +kernel)) ggL_law_X5_sight
set_option maxRecDepth 20000 in
theorem ggL_law_X6_sight : GoodIn wsL_law wsX6_sight := goodIn_r _ [617, 505, 618, 86, 88, 87, 336, 337, 338, 5, 339, 304, 113, 114, 115, 110, 111, 112, 802, 803, 804, 805, 806, 807, 808, 809, 810, 811, 812, 813, 814, 815, 816, 817, 818, 819, 820, 821, 822, 823, 824, 825, 826, 827, 828, 829, 830, 831, 832] (by decide +kernel) (by decide +kernel)
set_option maxRecDepth 20000 in
theorem gL_law_X6_sight : GoodIn wsL_law (wsV RL 88 RX6 yX6_sight wsX6_sight) := goodIn_app (goodIn_r (big := wsL_law) ([.methodLink RL 88 yX6_sight, .instanceMethod yX6_sight, .selects RX6 yX6_sight yX6_sight, .initialized RX6] : List Cond) [614, 615, 616, 5] (by decide +kernel) (by decide +kernel)) ggL_law_X6_sight
set_option maxRecDepth 20000 in
theorem ggL_law_X5_distance : GoodIn wsL_law wsX5_distance := goodIn_r _ [622, 449, 311, 312, 313, 2, 314, 23, 315, 227, 228, 229, 22, 230, 231, 316, 317, 318, 319, 320, 321, 322, 323, 324, 325, 326, 327, 328, 329, 330, 331, 52, 95, 96, 97, 623, 624, 625, 626, 627, 628, 384, 297, 272, 298, 629, 630, 631, 222, 632, 238, 606, 607, 475, 476, 633, 603, 604, 605, 634, 635, 636, 637, 28, 381, 382, 383, 638, 271, 273, 639, 640, 641, 642, 790, 791, 792, 793, 794, 795, 796, 797, 798, 799, 800, 801, 838, 839, 840, 861, 862, 841, 842, 843, 844, 845, 846, 847, 848, 849, 850, 851, 852, 853, 854] (by decide +kernel) (by decide +kernel)
set_option maxRecDepth 20000 in
theorem gL_law_X5_distance : GoodIn wsL_law (wsV RL 89 RX5 yX5_distance wsX5_distance) := goodIn_app (goodIn_r (big := wsL_law) ([.methodLink RL 89 yX5_distance, .instanceMethod yX5_distance, .selects RX5 yX5_distance yX5_distance, .initialized RX5] : List Cond) [619, 620, 621, 2] (by decide +kernel) (by decide +kernel)) ggL_law_X5_distance
set_option maxRecDepth 20000 in
theorem ggL_law_X6_distance : GoodIn wsL_law wsX6_distance := goodIn_r _ [646, 505, 336, 337, 338, 5, 339, 304, 113, 114, 115, 647, 648, 649, 650, 618, 86, 88, 87, 651, 652, 653, 654, 444, 655, 656, 657, 802, 803, 804, 805, 806, 807, 808, 809, 810, 811, 812, 813, 814, 815, 816, 817, 818, 819, 820, 821, 822, 823, 824, 825, 826, 827, 828, 829, 830, 831, 832] (by decide +kernel) (by decide +kernel)
set_option maxRecDepth 20000 in
theorem gL_law_X6_distance : GoodIn wsL_law (wsV RL 93 RX6 yX6_distance wsX6_distance) := goodIn_app (goodIn_r (big := wsL_law) ([.methodLink RL 93 yX6_distance, .instanceMethod yX6_distance, .selects RX6 yX6_distance yX6_distance, .initialized RX6] : List Cond) [643, 644, 645, 5] (by decide +kernel) (by decide +kernel)) ggL_law_X6_distance
set_option maxRecDepth 20000 in
theorem ggL_law_X5_ahead : GoodIn wsL_law wsX5_ahead := goodIn_r _ [661, 449, 311, 312, 313, 2, 314, 23, 315, 227, 228, 229, 22, 230, 231, 316, 317, 318, 319, 320, 321, 322, 323, 324, 325, 326, 327, 328, 329, 330, 331, 52, 95, 96, 97, 662, 663, 664, 222, 665, 666, 630, 631, 632, 238, 606, 607, 475, 476, 602, 603, 604, 605, 623, 624, 625, 626, 627, 628, 384, 297, 272, 298, 629, 633, 634, 635, 636, 637, 28, 381, 382, 383, 638, 271, 273, 639, 640, 641, 642, 790, 791, 792, 793, 794, 795, 796, 797, 798, 799, 800, 801, 838, 839, 840, 841, 842, 843, 844, 845, 846, 847, 848, 849, 850, 851, 852, 853, 854, 861, 862] (by decide +kernel) (by decide +kernel)
set_option maxRecDepth 20000 in
theorem gL_law_X5_ahead : GoodIn wsL_law (wsV RL 94 RX5 yX5_ahead wsX5_ahead) := goodIn_app (goodIn_r (big := wsL_law) ([.methodLink RL 94 yX5_ahead, .instanceMethod yX5_ahead, .selects RX5 yX5_ahead yX5_ahead, .initialized RX5] : List Cond) [658, 659, 660, 2] (by decide +kernel) (by decide +kernel)) ggL_law_X5_ahead
set_option maxRecDepth 20000 in
theorem ggL_law_X6_ahead : GoodIn wsL_law wsX6_ahead := goodIn_r _ [670, 505, 336, 337, 338, 5, 339, 304, 113, 114, 115, 647, 648, 649, 650, 618, 86, 88, 87, 651, 652, 653, 654, 444, 655, 656, 657, 802, 803, 804, 805, 806, 807, 808, 809, 810, 811, 812, 813, 814, 815, 816, 817, 818, 819, 820, 821, 822, 823, 824, 825, 826, 827, 828, 829, 830, 831, 832] (by decide +kernel) (by decide +kernel)
set_option maxRecDepth 20000 in
theorem gL_law_X6_ahead : GoodIn wsL_law (wsV RL 97 RX6 yX6_ahead wsX6_ahead) := goodIn_app (goodIn_r (big := wsL_law) ([.methodLink RL 97 yX6_ahead, .instanceMethod yX6_ahead, .selects RX6 yX6_ahead yX6_ahead, .initialized RX6] : List Cond) [667, 668, 669, 5] (by decide +kernel) (by decide +kernel)) ggL_law_X6_ahead
set_option maxRecDepth 20000 in
theorem ggL_law_X5_charter : GoodIn wsL_law wsX5_charter := goodIn_r _ [674, 449, 675, 676, 311, 312, 313, 2, 314, 23, 315, 227, 228, 229, 22, 230, 231, 316, 317, 318, 319, 320, 321, 322, 323, 324, 325, 326, 327, 328, 329, 330, 331, 52, 95, 96, 97, 841, 842, 843, 844, 845, 846, 847, 848, 849, 850, 851, 852, 853, 854, 790, 791, 792, 793, 794, 795, 796, 797, 798, 799, 800, 801, 838, 839, 840] (by decide +kernel) (by decide +kernel)
set_option maxRecDepth 20000 in
theorem gL_law_X5_charter : GoodIn wsL_law (wsV RL 98 RX5 yX5_charter wsX5_charter) := goodIn_app (goodIn_r (big := wsL_law) ([.methodLink RL 98 yX5_charter, .instanceMethod yX5_charter, .selects RX5 yX5_charter yX5_charter, .initialized RX5] : List Cond) [671, 672, 673, 2] (by decide +kernel) (by decide +kernel)) ggL_law_X5_charter
set_option maxRecDepth 20000 in
theorem ggL_law_X6_charter : GoodIn wsL_law wsX6_charter := goodIn_r _ [680, 505, 82, 83, 336, 337, 338, 5, 339, 304, 113, 114, 115, 802, 803, 804, 805, 806, 807, 808, 809, 810, 811, 812, 813, 814, 815, 816, 817, 818, 819, 820, 821, 822, 823, 824, 825, 826, 827, 828, 829, 830, 831, 832] (by decide +kernel) (by decide +kernel)
set_option maxRecDepth 20000 in
theorem gL_law_X6_charter : GoodIn wsL_law (wsV RL 101 RX6 yX6_charter wsX6_charter) := goodIn_app (goodIn_r (big := wsL_law) ([.methodLink RL 101 yX6_charter, .instanceMethod yX6_charter, .selects RX6 yX6_charter yX6_charter, .initialized RX6] : List Cond) [677, 678, 679, 5] (by decide +kernel) (by decide +kernel)) ggL_law_X6_charter
set_option maxRecDepth 20000 in
theorem ggL_law_X5_freight : GoodIn wsL_law wsX5_freight := goodIn_r _ [684, 676, 350, 675, 311, 312, 313, 2, 314, 23, 315, 227, 228, 229, 22, 230, 231, 316, 317, 318, 319, 320, 321, 322, 323, 324, 325, 326, 327, 328, 329, 330, 331, 52, 454, 455, 456, 222, 457, 243, 534, 535, 536, 537, 538, 539, 540, 541, 244, 247, 841, 842, 843, 844, 845, 846, 847, 848, 849, 850, 851, 852, 853, 854, 790, 791, 792, 793, 794, 795, 796, 797, 798, 799, 800, 801, 838, 839, 840] (by decide +kernel) (by decide +kernel)
set_option maxRecDepth 20000 in
theorem gL_law_X5_freight : GoodIn wsL_law (wsV RL 102 RX5 yX5_freight wsX5_freight) := goodIn_app (goodIn_r (big := wsL_law) ([.methodLink RL 102 yX5_freight, .instanceMethod yX5_freight, .selects RX5 yX5_freight yX5_freight, .initialized RX5] : List Cond) [681, 682, 683, 2] (by decide +kernel) (by decide +kernel)) ggL_law_X5_freight
set_option maxRecDepth 20000 in
theorem ggL_law_X6_freight : GoodIn wsL_law wsX6_freight := goodIn_r _ [688, 76, 77, 82, 83, 336, 337, 338, 5, 339, 304, 113, 114, 115, 546, 547, 548, 549, 359, 360, 361, 362, 363, 802, 803, 804, 805, 806, 807, 808, 809, 810, 811, 812, 813, 814, 815, 816, 817, 818, 819, 820, 821, 822, 823, 824, 825, 826, 827, 828, 829, 830, 831, 832] (by decide +kernel) (by decide +kernel)
set_option maxRecDepth 20000 in
theorem gL_law_X6_freight : GoodIn wsL_law (wsV RL 105 RX6 yX6_freight wsX6_freight) := goodIn_app (goodIn_r (big := wsL_law) ([.methodLink RL 105 yX6_freight, .instanceMethod yX6_freight, .selects RX6 yX6_freight yX6_freight, .initialized RX6] : List Cond) [685, 686, 687, 5] (by decide +kernel) (by decide +kernel)) ggL_law_X6_freight
set_option maxRecDepth 20000 in
theorem ggL_law_X5_market : GoodIn wsL_law wsX5_market := goodIn_r _ [692, 31, 32, 95, 96, 2, 97, 790, 791, 792, 793, 794, 795, 796, 797, 798, 799, 800, 801] (by decide +kernel) (by decide +kernel)
set_option maxRecDepth 20000 in
theorem gL_law_X5_market : GoodIn wsL_law (wsV RL 106 RX5 yX5_market wsX5_market) := goodIn_app (goodIn_r (big := wsL_law) ([.methodLink RL 106 yX5_market, .instanceMethod yX5_market, .selects RX5 yX5_market yX5_market, .initialized RX5] : List Cond) [689, 690, 691, 2] (by decide +kernel) (by decide +kernel)) ggL_law_X5_market
set_option maxRecDepth 20000 in
theorem ggL_law_X6_market : GoodIn wsL_law wsX6_market := goodIn_r _ [696, 89, 90, 113, 114, 5, 115, 802, 803, 804, 805, 806, 807, 808, 809, 810, 811, 812, 813, 814, 815, 816, 817, 818, 819, 820, 821, 822, 823, 824, 825, 826, 827, 828, 829, 830, 831, 832] (by decide +kernel) (by decide +kernel)
set_option maxRecDepth 20000 in
theorem gL_law_X6_market : GoodIn wsL_law (wsV RL 109 RX6 yX6_market wsX6_market) := goodIn_app (goodIn_r (big := wsL_law) ([.methodLink RL 109 yX6_market, .instanceMethod yX6_market, .selects RX6 yX6_market yX6_market, .initialized RX6] : List Cond) [693, 694, 695, 5] (by decide +kernel) (by decide +kernel)) ggL_law_X6_market
set_option maxRecDepth 20000 in
theorem ggL_law_X5_sale : GoodIn wsL_law wsX5_sale := goodIn_r _ [700, 33, 311, 312, 313, 2, 314, 23, 315, 227, 228, 229, 22, 230, 231, 316, 317, 318, 319, 320, 321, 322, 323, 324, 325, 326, 327, 328, 329, 330, 331, 52, 454, 455, 456, 222, 457, 243, 701, 702, 703, 704, 350, 705, 706, 707, 708, 31, 32, 638, 271, 272, 273, 709, 710, 711, 712, 244, 247, 790, 791, 792, 793, 794, 795, 796, 797, 798, 799, 800, 801, 838, 839, 840, 841, 842, 843, 844, 845, 846, 847, 848, 849, 850, 851, 852, 853, 854] (by decide +kernel) (by decide +kernel)
set_option maxRecDepth 20000 in
theorem gL_law_X5_sale : GoodIn wsL_law (wsV RL 110 RX5 yX5_sale wsX5_sale) := goodIn_app (goodIn_r (big := wsL_law) ([.methodLink RL 110 yX5_sale, .instanceMethod yX5_sale, .selects RX5 yX5_sale yX5_sale, .initialized RX5] : List Cond) [697, 698, 699, 2] (by decide +kernel) (by decide +kernel)) ggL_law_X5_sale
set_option maxRecDepth 20000 in
theorem ggL_law_X6_sale : GoodIn wsL_law wsX6_sale := goodIn_r _ [716, 76, 77, 717, 336, 337, 338, 5, 339, 304, 113, 114, 115, 718, 719, 720, 721, 89, 90, 359, 360, 361, 362, 363, 802, 803, 804, 805, 806, 807, 808, 809, 810, 811, 812, 813, 814, 815, 816, 817, 818, 819, 820, 821, 822, 823, 824, 825, 826, 827, 828, 829, 830, 831, 832] (by decide +kernel) (by decide +kernel)
set_option maxRecDepth 20000 in
theorem gL_law_X6_sale : GoodIn wsL_law (wsV RL 113 RX6 yX6_sale wsX6_sale) := goodIn_app (goodIn_r (big := wsL_law) ([.methodLink RL 113 yX6_sale, .instanceMethod yX6_sale, .selects RX6 yX6_sale yX6_sale, .initialized RX6] : List Cond) [713, 714, 715, 5] (by decide +kernel) (by decide +kernel)) ggL_law_X6_sale
set_option maxRecDepth 20000 in
theorem ggL_law_X5_meanPrice : GoodIn wsL_law wsX5_meanPrice := goodIn_r _ [725, 23, 315, 350, 227, 228, 229, 22, 230, 231, 316, 317, 318, 319, 320, 321, 322, 323, 324, 325, 326, 327, 328, 329, 330, 331, 52, 454, 455, 456, 222, 457, 243, 701, 702, 703, 2, 704, 705, 706, 707, 708, 31, 32, 638, 271, 272, 273, 709, 710, 711, 712, 244, 247, 143, 144, 145, 146, 26, 25, 790, 791, 792, 793, 794, 795, 796, 797, 798, 799, 800, 801, 841, 842, 843, 844, 845, 846, 847, 848, 849, 850, 851, 852, 853, 854, 838, 839, 840] (by decide +kernel) (by decide +kernel)
set_option maxRecDepth 20000 in
theorem gL_law_X5_meanPrice : GoodIn wsL_law (wsV RL 114 RX5 yX5_meanPrice wsX5_meanPrice) := goodIn_app (goodIn_r (big := wsL_law) ([.methodLink RL 114 yX5_meanPrice, .instanceMethod yX5_meanPrice, .selects RX5 yX5_meanPrice yX5_meanPrice, .initialized RX5] : List Cond) [722, 723, 724, 2] (by decide +kernel) (by decide +kernel)) ggL_law_X5_meanPrice
set_option maxRecDepth 20000 in
theorem ggL_law_X6_meanPrice : GoodIn wsL_law wsX6_meanPrice := goodIn_r _ [729, 304, 76, 77, 718, 719, 720, 5, 721, 89, 90, 359, 360, 361, 362, 363, 164, 165, 166, 167, 168, 67, 802, 803, 804, 805, 806, 807, 808, 809, 810, 811, 812, 813, 814, 815, 816, 817, 818, 819, 820, 821, 822, 823, 824, 825, 826, 827, 828, 829, 830, 831, 832] (by decide +kernel) (by decide +kernel)
set_option maxRecDepth 20000 in
theorem gL_law_X6_meanPrice : GoodIn wsL_law (wsV RL 117 RX6 yX6_meanPrice wsX6_meanPrice) := goodIn_app (goodIn_r (big := wsL_law) ([.methodLink RL 117 yX6_meanPrice, .instanceMethod yX6_meanPrice, .selects RX6 yX6_meanPrice yX6_meanPrice, .initialized RX6] : List Cond) [726, 727, 728, 5] (by decide +kernel) (by decide +kernel)) ggL_law_X6_meanPrice
set_option maxRecDepth 20000 in
theorem ggL_law_X5_asked : GoodIn wsL_law wsX5_asked := goodIn_r _ [733, 33, 790, 791, 792, 793, 794, 795, 796, 797, 798, 799, 800, 801] (by decide +kernel) (by decide +kernel)
set_option maxRecDepth 20000 in
theorem gL_law_X5_asked : GoodIn wsL_law (wsV RL 118 RX5 yX5_asked wsX5_asked) := goodIn_app (goodIn_r (big := wsL_law) ([.methodLink RL 118 yX5_asked, .instanceMethod yX5_asked, .selects RX5 yX5_asked yX5_asked, .initialized RX5] : List Cond) [730, 731, 732, 2] (by decide +kernel) (by decide +kernel)) ggL_law_X5_asked
set_option maxRecDepth 20000 in
theorem ggL_law_X6_asked : GoodIn wsL_law wsX6_asked := goodIn_r _ [737, 717, 802, 803, 804, 805, 806, 807, 808, 809, 810, 811, 812, 813, 814, 815, 816, 817, 818, 819, 820, 821, 822, 823, 824, 825, 826, 827, 828, 829, 830, 831, 832] (by decide +kernel) (by decide +kernel)
set_option maxRecDepth 20000 in
theorem gL_law_X6_asked : GoodIn wsL_law (wsV RL 122 RX6 yX6_asked wsX6_asked) := goodIn_app (goodIn_r (big := wsL_law) ([.methodLink RL 122 yX6_asked, .instanceMethod yX6_asked, .selects RX6 yX6_asked yX6_asked, .initialized RX6] : List Cond) [734, 735, 736, 5] (by decide +kernel) (by decide +kernel)) ggL_law_X6_asked
set_option maxRecDepth 20000 in
theorem ggL_law_X5_count : GoodIn wsL_law wsX5_count := goodIn_r _ [741, 23, 27, 15, 30, 227, 228, 229, 22, 230, 231, 742, 743, 744, 14, 745, 39, 450, 451, 452, 2, 453, 315, 316, 317, 318, 319, 320, 321, 322, 323, 324, 325, 326, 327, 328, 329, 330, 331, 52, 454, 455, 456, 222, 457, 243, 790, 791, 792, 793, 794, 795, 796, 797, 798, 799, 800, 801, 838, 839, 840, 833, 834, 835, 841, 842, 843, 844, 845, 846, 847, 848, 849, 850, 851, 852, 853, 854] (by decide +kernel) (by decide +kernel)
set_option maxRecDepth 20000 in
theorem gL_law_X5_count : GoodIn wsL_law (wsV RL 123 RX5 yX5_count wsX5_count) := goodIn_app (goodIn_r (big := wsL_law) ([.methodLink RL 123 yX5_count, .instanceMethod yX5_count, .selects RX5 yX5_count yX5_count, .initialized RX5] : List Cond) [738, 739, 740, 2] (by decide +kernel) (by decide +kernel)) ggL_law_X5_count
set_option maxRecDepth 20000 in
theorem ggL_law_X6_count : GoodIn wsL_law wsX6_count := goodIn_r _ [749, 113, 114, 5, 115, 750, 751, 752, 753, 69, 304, 305, 618, 506, 507, 508, 509, 76, 802, 803, 804, 805, 806, 807, 808, 809, 810, 811, 812, 813, 814, 815, 816, 817, 818, 819, 820, 821, 822, 823, 824, 825, 826, 827, 828, 829, 830, 831, 832] (by decide +kernel) (by decide +kernel)
set_option maxRecDepth 20000 in
theorem gL_law_X6_count : GoodIn wsL_law (wsV RL 126 RX6 yX6_count wsX6_count) := goodIn_app (goodIn_r (big := wsL_law) ([.methodLink RL 126 yX6_count, .instanceMethod yX6_count, .selects RX6 yX6_count yX6_count, .initialized RX6] : List Cond) [746, 747, 748, 5] (by decide +kernel) (by decide +kernel)) ggL_law_X6_count
set_option maxRecDepth 20000 in
theorem ggL_law_X5_finding : GoodIn wsL_law wsX5_finding := goodIn_r _ [757, 26, 790, 791, 792, 793, 794, 795, 796, 797, 798, 799, 800, 801] (by decide +kernel) (by decide +kernel)
set_option maxRecDepth 20000 in
theorem gL_law_X5_finding : GoodIn wsL_law (wsV RL 127 RX5 yX5_finding wsX5_finding) := goodIn_app (goodIn_r (big := wsL_law) ([.methodLink RL 127 yX5_finding, .instanceMethod yX5_finding, .selects RX5 yX5_finding yX5_finding, .initialized RX5] : List Cond) [754, 755, 756, 2] (by decide +kernel) (by decide +kernel)) ggL_law_X5_finding
set_option maxRecDepth 20000 in
theorem ggL_law_X6_finding : GoodIn wsL_law wsX6_finding := goodIn_r _ [761, 168, 802, 803, 804, 805, 806, 807, 808, 809, 810, 811, 812, 813, 814, 815, 816, 817, 818, 819, 820, 821, 822, 823, 824, 825, 826, 827, 828, 829, 830, 831, 832] (by decide +kernel) (by decide +kernel)
set_option maxRecDepth 20000 in
theorem gL_law_X6_finding : GoodIn wsL_law (wsV RL 130 RX6 yX6_finding wsX6_finding) := goodIn_app (goodIn_r (big := wsL_law) ([.methodLink RL 130 yX6_finding, .instanceMethod yX6_finding, .selects RX6 yX6_finding yX6_finding, .initialized RX6] : List Cond) [758, 759, 760, 5] (by decide +kernel) (by decide +kernel)) ggL_law_X6_finding
set_option maxRecDepth 20000 in
theorem ggL_law_X5_findings : GoodIn wsL_law wsX5_findings := goodIn_r _ [765, 25, 790, 791, 792, 793, 794, 795, 796, 797, 798, 799, 800, 801] (by decide +kernel) (by decide +kernel)
set_option maxRecDepth 20000 in
theorem gL_law_X5_findings : GoodIn wsL_law (wsV RL 131 RX5 yX5_findings wsX5_findings) := goodIn_app (goodIn_r (big := wsL_law) ([.methodLink RL 131 yX5_findings, .instanceMethod yX5_findings, .selects RX5 yX5_findings yX5_findings, .initialized RX5] : List Cond) [762, 763, 764, 2] (by decide +kernel) (by decide +kernel)) ggL_law_X5_findings
set_option maxRecDepth 20000 in
theorem ggL_law_X6_findings : GoodIn wsL_law wsX6_findings := goodIn_r _ [769, 67, 113, 114, 5, 115, 802, 803, 804, 805, 806, 807, 808, 809, 810, 811, 812, 813, 814, 815, 816, 817, 818, 819, 820, 821, 822, 823, 824, 825, 826, 827, 828, 829, 830, 831, 832] (by decide +kernel) (by decide +kernel)
set_option maxRecDepth 20000 in
theorem gL_law_X6_findings : GoodIn wsL_law (wsV RL 134 RX6 yX6_findings wsX6_findings) := goodIn_app (goodIn_r (big := wsL_law) ([.methodLink RL 134 yX6_findings, .instanceMethod yX6_findings, .selects RX6 yX6_findings yX6_findings, .initialized RX6] : List Cond) [766, 767, 768, 5] (by decide +kernel) (by decide +kernel)) ggL_law_X6_findings
set_option maxRecDepth 20000 in
theorem ggL_law_X5_digest : GoodIn wsL_law wsX5_digest := goodIn_r _ [773, 774, 775, 23, 15, 776, 739, 740, 2, 741, 27, 30, 227, 228, 229, 22, 230, 231, 742, 743, 744, 14, 745, 39, 450, 451, 452, 453, 315, 316, 317, 318, 319, 320, 321, 322, 323, 324, 325, 326, 327, 328, 329, 330, 331, 52, 454, 455, 456, 222, 457, 243, 777, 341, 342, 343, 344, 345, 346, 347, 348, 349, 350, 311, 312, 313, 314, 778, 779, 780, 781, 782, 151, 121, 122, 123, 96, 97, 783, 148, 149, 150, 42, 790, 791, 792, 793, 794, 795, 796, 797, 798, 799, 800, 801, 838, 839, 840, 833, 834, 835, 841, 842, 843, 844, 845, 846, 847, 848, 849, 850, 851, 852, 853, 854] (by decide +kernel) (by decide +kernel)
set_option maxRecDepth 20000 in
theorem gL_law_X5_digest : GoodIn wsL_law (wsV RL 135 RX5 yX5_digest wsX5_digest) := goodIn_app (goodIn_r (big := wsL_law) ([.methodLink RL 135 yX5_digest, .instanceMethod yX5_digest, .selects RX5 yX5_digest yX5_digest, .initialized RX5] : List Cond) [770, 771, 772, 2] (by decide +kernel) (by decide +kernel)) ggL_law_X5_digest
set_option maxRecDepth 20000 in
theorem ggL_law_X6_digest : GoodIn wsL_law wsX6_digest := goodIn_r _ [787, 788, 789, 304, 69, 70, 750, 751, 752, 5, 753, 305, 618, 506, 507, 508, 509, 76, 355, 356, 357, 358, 72, 73, 74, 75, 77, 359, 360, 361, 362, 363, 802, 803, 804, 805, 806, 807, 808, 809, 810, 811, 812, 813, 814, 815, 816, 817, 818, 819, 820, 821, 822, 823, 824, 825, 826, 827, 828, 829, 830, 831, 832] (by decide +kernel) (by decide +kernel)
set_option maxRecDepth 20000 in
theorem gL_law_X6_digest : GoodIn wsL_law (wsV RL 138 RX6 yX6_digest wsX6_digest) := goodIn_app (goodIn_r (big := wsL_law) ([.methodLink RL 138 yX6_digest, .instanceMethod yX6_digest, .selects RX6 yX6_digest yX6_digest, .initialized RX6] : List Cond) [784, 785, 786, 5] (by decide +kernel) (by decide +kernel)) ggL_law_X6_digest
theorem dL_law_0 : decode cL_law 0 = .ok (.new 7, 3) := by decide +kernel
theorem dL_law_3 : decode cL_law 3 = .ok (.dup, 1) := by decide +kernel
theorem dL_law_4 : decode cL_law 4 = .ok (.invokespecial 9, 3) := by decide +kernel
theorem dL_law_7 : decode cL_law 7 = .ok (.astore_n 1, 1) := by decide +kernel
theorem dL_law_8 : decode cL_law 8 = .ok (.new 10, 3) := by decide +kernel
theorem dL_law_11 : decode cL_law 11 = .ok (.dup, 1) := by decide +kernel
theorem dL_law_12 : decode cL_law 12 = .ok (.invokespecial 12, 3) := by decide +kernel
theorem dL_law_15 : decode cL_law 15 = .ok (.astore_n 2, 1) := by decide +kernel
theorem dL_law_16 : decode cL_law 16 = .ok (.iconst 0, 1) := by decide +kernel
theorem dL_law_17 : decode cL_law 17 = .ok (.istore_n 3, 1) := by decide +kernel
theorem dL_law_18 : decode cL_law 18 = .ok (.iload_n 3, 1) := by decide +kernel
theorem dL_law_19 : decode cL_law 19 = .ok (.aload_n 0, 1) := by decide +kernel
theorem dL_law_20 : decode cL_law 20 = .ok (.arraylength, 1) := by decide +kernel
theorem dL_law_21 : decode cL_law 21 = .ok (.bipush 8, 2) := by decide +kernel
theorem dL_law_23 : decode cL_law 23 = .ok (.isub, 1) := by decide +kernel
theorem dL_law_24 : decode cL_law 24 = .ok (.if_icmp .gt 1139, 3) := by decide +kernel
theorem dL_law_27 : decode cL_law 27 = .ok (.aload_n 0, 1) := by decide +kernel
theorem dL_law_28 : decode cL_law 28 = .ok (.iload_n 3, 1) := by decide +kernel
theorem dL_law_29 : decode cL_law 29 = .ok (.iaload, 1) := by decide +kernel
theorem dL_law_30 : decode cL_law 30 = .ok (.bipush 31, 2) := by decide +kernel
theorem dL_law_32 : decode cL_law 32 = .ok (.iand, 1) := by decide +kernel
theorem dL_law_33 : decode cL_law 33 = .ok (.tableswitch 1124 0 28 #[131, 180, 203, 246, 269, 332, 355, 398, 431, 464, 497, 550, 637, 670, 693, 706, 759, 802, 861, 904, 947, 970, 1003, 1026, 1039, 1052, 1075, 1088, 1111], 131) := by decide +kernel
theorem dL_law_164 : decode cL_law 164 = .ok (.aload_n 1, 1) := by decide +kernel
theorem dL_law_165 : decode cL_law 165 = .ok (.aload_n 0, 1) := by decide +kernel
theorem dL_law_166 : decode cL_law 166 = .ok (.iload_n 3, 1) := by decide +kernel
theorem dL_law_167 : decode cL_law 167 = .ok (.iconst 1, 1) := by decide +kernel
theorem dL_law_168 : decode cL_law 168 = .ok (.iadd, 1) := by decide +kernel
theorem dL_law_169 : decode cL_law 169 = .ok (.iaload, 1) := by decide +kernel
theorem dL_law_170 : decode cL_law 170 = .ok (.aload_n 0, 1) := by decide +kernel
theorem dL_law_171 : decode cL_law 171 = .ok (.iload_n 3, 1) := by decide +kernel
theorem dL_law_172 : decode cL_law 172 = .ok (.iconst 2, 1) := by decide +kernel
theorem dL_law_173 : decode cL_law 173 = .ok (.iadd, 1) := by decide +kernel
theorem dL_law_174 : decode cL_law 174 = .ok (.iaload, 1) := by decide +kernel
theorem dL_law_175 : decode cL_law 175 = .ok (.ifCond .eq 7, 3) := by decide +kernel
theorem dL_law_178 : decode cL_law 178 = .ok (.iconst 1, 1) := by decide +kernel
theorem dL_law_179 : decode cL_law 179 = .ok (.goto 4, 3) := by decide +kernel
theorem dL_law_182 : decode cL_law 182 = .ok (.iconst 0, 1) := by decide +kernel
theorem dL_law_183 : decode cL_law 183 = .ok (.invokevirtual 13, 3) := by decide +kernel
theorem dL_law_186 : decode cL_law 186 = .ok (.pop, 1) := by decide +kernel
theorem dL_law_187 : decode cL_law 187 = .ok (.aload_n 2, 1) := by decide +kernel
theorem dL_law_188 : decode cL_law 188 = .ok (.aload_n 0, 1) := by decide +kernel
theorem dL_law_189 : decode cL_law 189 = .ok (.iload_n 3, 1) := by decide +kernel
theorem dL_law_190 : decode cL_law 190 = .ok (.iconst 1, 1) := by decide +kernel
theorem dL_law_191 : decode cL_law 191 = .ok (.iadd, 1) := by decide +kernel
theorem dL_law_192 : decode cL_law 192 = .ok (.iaload, 1) := by decide +kernel
theorem dL_law_193 : decode cL_law 193 = .ok (.aload_n 0, 1) := by decide +kernel
theorem dL_law_194 : decode cL_law 194 = .ok (.iload_n 3, 1) := by decide +kernel
theorem dL_law_195 : decode cL_law 195 = .ok (.iconst 2, 1) := by decide +kernel
theorem dL_law_196 : decode cL_law 196 = .ok (.iadd, 1) := by decide +kernel
theorem dL_law_197 : decode cL_law 197 = .ok (.iaload, 1) := by decide +kernel
theorem dL_law_198 : decode cL_law 198 = .ok (.ifCond .eq 7, 3) := by decide +kernel
theorem dL_law_201 : decode cL_law 201 = .ok (.iconst 1, 1) := by decide +kernel
theorem dL_law_202 : decode cL_law 202 = .ok (.goto 4, 3) := by decide +kernel
theorem dL_law_205 : decode cL_law 205 = .ok (.iconst 0, 1) := by decide +kernel
theorem dL_law_206 : decode cL_law 206 = .ok (.invokevirtual 17, 3) := by decide +kernel
theorem dL_law_209 : decode cL_law 209 = .ok (.pop, 1) := by decide +kernel
theorem dL_law_210 : decode cL_law 210 = .ok (.goto 947, 3) := by decide +kernel
theorem dL_law_213 : decode cL_law 213 = .ok (.aload_n 1, 1) := by decide +kernel
theorem dL_law_214 : decode cL_law 214 = .ok (.aload_n 0, 1) := by decide +kernel
theorem dL_law_215 : decode cL_law 215 = .ok (.iload_n 3, 1) := by decide +kernel
theorem dL_law_216 : decode cL_law 216 = .ok (.iconst 1, 1) := by decide +kernel
theorem dL_law_217 : decode cL_law 217 = .ok (.iadd, 1) := by decide +kernel
theorem dL_law_218 : decode cL_law 218 = .ok (.iaload, 1) := by decide +kernel
theorem dL_law_219 : decode cL_law 219 = .ok (.invokevirtual 18, 3) := by decide +kernel
theorem dL_law_222 : decode cL_law 222 = .ok (.pop, 1) := by decide +kernel
theorem dL_law_223 : decode cL_law 223 = .ok (.aload_n 2, 1) := by decide +kernel
theorem dL_law_224 : decode cL_law 224 = .ok (.aload_n 0, 1) := by decide +kernel
theorem dL_law_225 : decode cL_law 225 = .ok (.iload_n 3, 1) := by decide +kernel
theorem dL_law_226 : decode cL_law 226 = .ok (.iconst 1, 1) := by decide +kernel
theorem dL_law_227 : decode cL_law 227 = .ok (.iadd, 1) := by decide +kernel
theorem dL_law_228 : decode cL_law 228 = .ok (.iaload, 1) := by decide +kernel
theorem dL_law_229 : decode cL_law 229 = .ok (.invokevirtual 22, 3) := by decide +kernel
theorem dL_law_232 : decode cL_law 232 = .ok (.pop, 1) := by decide +kernel
theorem dL_law_233 : decode cL_law 233 = .ok (.goto 924, 3) := by decide +kernel
theorem dL_law_236 : decode cL_law 236 = .ok (.aload_n 1, 1) := by decide +kernel
theorem dL_law_237 : decode cL_law 237 = .ok (.aload_n 0, 1) := by decide +kernel
theorem dL_law_238 : decode cL_law 238 = .ok (.iload_n 3, 1) := by decide +kernel
theorem dL_law_239 : decode cL_law 239 = .ok (.iconst 1, 1) := by decide +kernel
theorem dL_law_240 : decode cL_law 240 = .ok (.iadd, 1) := by decide +kernel
theorem dL_law_241 : decode cL_law 241 = .ok (.iaload, 1) := by decide +kernel
theorem dL_law_242 : decode cL_law 242 = .ok (.aload_n 0, 1) := by decide +kernel
theorem dL_law_243 : decode cL_law 243 = .ok (.iload_n 3, 1) := by decide +kernel
theorem dL_law_244 : decode cL_law 244 = .ok (.iconst 2, 1) := by decide +kernel
theorem dL_law_245 : decode cL_law 245 = .ok (.iadd, 1) := by decide +kernel
theorem dL_law_246 : decode cL_law 246 = .ok (.iaload, 1) := by decide +kernel
theorem dL_law_247 : decode cL_law 247 = .ok (.aload_n 0, 1) := by decide +kernel
theorem dL_law_248 : decode cL_law 248 = .ok (.iload_n 3, 1) := by decide +kernel
theorem dL_law_249 : decode cL_law 249 = .ok (.iconst 3, 1) := by decide +kernel
theorem dL_law_250 : decode cL_law 250 = .ok (.iadd, 1) := by decide +kernel
theorem dL_law_251 : decode cL_law 251 = .ok (.iaload, 1) := by decide +kernel
theorem dL_law_252 : decode cL_law 252 = .ok (.invokevirtual 23, 3) := by decide +kernel
theorem dL_law_255 : decode cL_law 255 = .ok (.pop, 1) := by decide +kernel
theorem dL_law_256 : decode cL_law 256 = .ok (.aload_n 2, 1) := by decide +kernel
theorem dL_law_257 : decode cL_law 257 = .ok (.aload_n 0, 1) := by decide +kernel
theorem dL_law_258 : decode cL_law 258 = .ok (.iload_n 3, 1) := by decide +kernel
theorem dL_law_259 : decode cL_law 259 = .ok (.iconst 1, 1) := by decide +kernel
theorem dL_law_260 : decode cL_law 260 = .ok (.iadd, 1) := by decide +kernel
theorem dL_law_261 : decode cL_law 261 = .ok (.iaload, 1) := by decide +kernel
theorem dL_law_262 : decode cL_law 262 = .ok (.aload_n 0, 1) := by decide +kernel
theorem dL_law_263 : decode cL_law 263 = .ok (.iload_n 3, 1) := by decide +kernel
theorem dL_law_264 : decode cL_law 264 = .ok (.iconst 2, 1) := by decide +kernel
theorem dL_law_265 : decode cL_law 265 = .ok (.iadd, 1) := by decide +kernel
theorem dL_law_266 : decode cL_law 266 = .ok (.iaload, 1) := by decide +kernel
theorem dL_law_267 : decode cL_law 267 = .ok (.aload_n 0, 1) := by decide +kernel
theorem dL_law_268 : decode cL_law 268 = .ok (.iload_n 3, 1) := by decide +kernel
theorem dL_law_269 : decode cL_law 269 = .ok (.iconst 3, 1) := by decide +kernel
theorem dL_law_270 : decode cL_law 270 = .ok (.iadd, 1) := by decide +kernel
theorem dL_law_271 : decode cL_law 271 = .ok (.iaload, 1) := by decide +kernel
theorem dL_law_272 : decode cL_law 272 = .ok (.invokevirtual 27, 3) := by decide +kernel
theorem dL_law_275 : decode cL_law 275 = .ok (.pop, 1) := by decide +kernel
theorem dL_law_276 : decode cL_law 276 = .ok (.goto 881, 3) := by decide +kernel
theorem dL_law_279 : decode cL_law 279 = .ok (.aload_n 1, 1) := by decide +kernel
theorem dL_law_280 : decode cL_law 280 = .ok (.aload_n 0, 1) := by decide +kernel
theorem dL_law_281 : decode cL_law 281 = .ok (.iload_n 3, 1) := by decide +kernel
theorem dL_law_282 : decode cL_law 282 = .ok (.iconst 1, 1) := by decide +kernel
theorem dL_law_283 : decode cL_law 283 = .ok (.iadd, 1) := by decide +kernel
theorem dL_law_284 : decode cL_law 284 = .ok (.iaload, 1) := by decide +kernel
theorem dL_law_285 : decode cL_law 285 = .ok (.invokevirtual 28, 3) := by decide +kernel
theorem dL_law_288 : decode cL_law 288 = .ok (.pop, 1) := by decide +kernel
theorem dL_law_289 : decode cL_law 289 = .ok (.aload_n 2, 1) := by decide +kernel
theorem dL_law_290 : decode cL_law 290 = .ok (.aload_n 0, 1) := by decide +kernel
theorem dL_law_291 : decode cL_law 291 = .ok (.iload_n 3, 1) := by decide +kernel
theorem dL_law_292 : decode cL_law 292 = .ok (.iconst 1, 1) := by decide +kernel
theorem dL_law_293 : decode cL_law 293 = .ok (.iadd, 1) := by decide +kernel
theorem dL_law_294 : decode cL_law 294 = .ok (.iaload, 1) := by decide +kernel
theorem dL_law_295 : decode cL_law 295 = .ok (.invokevirtual 31, 3) := by decide +kernel
theorem dL_law_298 : decode cL_law 298 = .ok (.pop, 1) := by decide +kernel
theorem dL_law_299 : decode cL_law 299 = .ok (.goto 858, 3) := by decide +kernel
theorem dL_law_302 : decode cL_law 302 = .ok (.aload_n 1, 1) := by decide +kernel
theorem dL_law_303 : decode cL_law 303 = .ok (.aload_n 0, 1) := by decide +kernel
theorem dL_law_304 : decode cL_law 304 = .ok (.iload_n 3, 1) := by decide +kernel
theorem dL_law_305 : decode cL_law 305 = .ok (.iconst 1, 1) := by decide +kernel
theorem dL_law_306 : decode cL_law 306 = .ok (.iadd, 1) := by decide +kernel
theorem dL_law_307 : decode cL_law 307 = .ok (.iaload, 1) := by decide +kernel
theorem dL_law_308 : decode cL_law 308 = .ok (.aload_n 0, 1) := by decide +kernel
theorem dL_law_309 : decode cL_law 309 = .ok (.iload_n 3, 1) := by decide +kernel
theorem dL_law_310 : decode cL_law 310 = .ok (.iconst 2, 1) := by decide +kernel
theorem dL_law_311 : decode cL_law 311 = .ok (.iadd, 1) := by decide +kernel
theorem dL_law_312 : decode cL_law 312 = .ok (.iaload, 1) := by decide +kernel
theorem dL_law_313 : decode cL_law 313 = .ok (.aload_n 0, 1) := by decide +kernel
theorem dL_law_314 : decode cL_law 314 = .ok (.iload_n 3, 1) := by decide +kernel
theorem dL_law_315 : decode cL_law 315 = .ok (.iconst 3, 1) := by decide +kernel
theorem dL_law_316 : decode cL_law 316 = .ok (.iadd, 1) := by decide +kernel
theorem dL_law_317 : decode cL_law 317 = .ok (.iaload, 1) := by decide +kernel
theorem dL_law_318 : decode cL_law 318 = .ok (.aload_n 0, 1) := by decide +kernel
theorem dL_law_319 : decode cL_law 319 = .ok (.iload_n 3, 1) := by decide +kernel
theorem dL_law_320 : decode cL_law 320 = .ok (.iconst 4, 1) := by decide +kernel
theorem dL_law_321 : decode cL_law 321 = .ok (.iadd, 1) := by decide +kernel
theorem dL_law_322 : decode cL_law 322 = .ok (.iaload, 1) := by decide +kernel
theorem dL_law_323 : decode cL_law 323 = .ok (.aload_n 0, 1) := by decide +kernel
theorem dL_law_324 : decode cL_law 324 = .ok (.iload_n 3, 1) := by decide +kernel
theorem dL_law_325 : decode cL_law 325 = .ok (.iconst 5, 1) := by decide +kernel
theorem dL_law_326 : decode cL_law 326 = .ok (.iadd, 1) := by decide +kernel
theorem dL_law_327 : decode cL_law 327 = .ok (.iaload, 1) := by decide +kernel
theorem dL_law_328 : decode cL_law 328 = .ok (.invokevirtual 32, 3) := by decide +kernel
theorem dL_law_331 : decode cL_law 331 = .ok (.pop, 1) := by decide +kernel
theorem dL_law_332 : decode cL_law 332 = .ok (.aload_n 2, 1) := by decide +kernel
theorem dL_law_333 : decode cL_law 333 = .ok (.aload_n 0, 1) := by decide +kernel
theorem dL_law_334 : decode cL_law 334 = .ok (.iload_n 3, 1) := by decide +kernel
theorem dL_law_335 : decode cL_law 335 = .ok (.iconst 1, 1) := by decide +kernel
