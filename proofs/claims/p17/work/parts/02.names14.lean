theorem dJ7_fill_031fb_12 : decode cJ7_fill_031fb 12 = .ok (.iload_n 1, 1) := by decide +kernel
theorem dJ7_fill_031fb_13 : decode cJ7_fill_031fb 13 = .ok (.bastore, 1) := by decide +kernel
theorem dJ7_fill_031fb_14 : decode cJ7_fill_031fb 14 = .ok (.iinc 2 1, 3) := by decide +kernel
theorem dJ7_fill_031fb_17 : decode cJ7_fill_031fb 17 = .ok (.goto (-12), 3) := by decide +kernel
theorem dJ7_fill_031fb_20 : decode cJ7_fill_031fb 20 = .ok (.return_, 1) := by decide +kernel
set_option maxRecDepth 20000 in
theorem ggJ7_copyOf_1904c_J7_copyOf_6403c : GoodIn wsJ7_copyOf_1904c wsJ7_copyOf_6403c := goodIn_r _ [8, 9, 10, 11, 12, 13, 14, 15, 16, 17, 18] rfl (by decide +kernel)
set_option maxRecDepth 20000 in
theorem gJ7_copyOf_1904c_J7_copyOf_6403c : GoodIn wsJ7_copyOf_1904c (va_wsS RJ7 300 yJ7_copyOf_6403c wsJ7_copyOf_6403c) := goodIn_app (goodIn_of _ (by decide +kernel)) ggJ7_copyOf_1904c_J7_copyOf_6403c
theorem dJ7_copyOf_1904c_0 : decode cJ7_copyOf_1904c 0 = .ok (.aload_n 0, 1) := by decide +kernel
theorem dJ7_copyOf_1904c_1 : decode cJ7_copyOf_1904c 1 = .ok (.iload_n 1, 1) := by decide +kernel
theorem dJ7_copyOf_1904c_2 : decode cJ7_copyOf_1904c 2 = .ok (.aload_n 0, 1) := by decide +kernel
theorem dJ7_copyOf_1904c_3 : decode cJ7_copyOf_1904c 3 = .ok (.invokevirtual 86, 3) := by decide +kernel
theorem dJ7_copyOf_1904c_6 : decode cJ7_copyOf_1904c 6 = .ok (.invokestatic 300, 3) := by decide +kernel
theorem dJ7_copyOf_1904c_9 : decode cJ7_copyOf_1904c 9 = .ok (.areturn, 1) := by decide +kernel
theorem dJ7_copyOf_6403c_0 : decode cJ7_copyOf_6403c 0 = .ok (.aload_n 2, 1) := by decide +kernel
theorem dJ7_copyOf_6403c_1 : decode cJ7_copyOf_6403c 1 = .ok (.ldc 110, 2) := by decide +kernel
theorem dJ7_copyOf_6403c_3 : decode cJ7_copyOf_6403c 3 = .ok (.if_acmp .ne 10, 3) := by decide +kernel
theorem dJ7_copyOf_6403c_6 : decode cJ7_copyOf_6403c 6 = .ok (.iload_n 1, 1) := by decide +kernel
theorem dJ7_copyOf_6403c_7 : decode cJ7_copyOf_6403c 7 = .ok (.anewarray 2, 3) := by decide +kernel
theorem dJ7_copyOf_6403c_10 : decode cJ7_copyOf_6403c 10 = .ok (.goto 14, 3) := by decide +kernel
theorem dJ7_copyOf_6403c_13 : decode cJ7_copyOf_6403c 13 = .ok (.aload_n 2, 1) := by decide +kernel
theorem dJ7_copyOf_6403c_14 : decode cJ7_copyOf_6403c 14 = .ok (.invokevirtual 90, 3) := by decide +kernel
theorem dJ7_copyOf_6403c_17 : decode cJ7_copyOf_6403c 17 = .ok (.iload_n 1, 1) := by decide +kernel
theorem dJ7_copyOf_6403c_18 : decode cJ7_copyOf_6403c 18 = .ok (.invokestatic 95, 3) := by decide +kernel
theorem dJ7_copyOf_6403c_21 : decode cJ7_copyOf_6403c 21 = .ok (.checkcast 110, 3) := by decide +kernel
theorem dJ7_copyOf_6403c_24 : decode cJ7_copyOf_6403c 24 = .ok (.astore_n 3, 1) := by decide +kernel
theorem dJ7_copyOf_6403c_25 : decode cJ7_copyOf_6403c 25 = .ok (.aload_n 0, 1) := by decide +kernel
theorem dJ7_copyOf_6403c_26 : decode cJ7_copyOf_6403c 26 = .ok (.iconst 0, 1) := by decide +kernel
theorem dJ7_copyOf_6403c_27 : decode cJ7_copyOf_6403c 27 = .ok (.aload_n 3, 1) := by decide +kernel
theorem dJ7_copyOf_6403c_28 : decode cJ7_copyOf_6403c 28 = .ok (.iconst 0, 1) := by decide +kernel
theorem dJ7_copyOf_6403c_29 : decode cJ7_copyOf_6403c 29 = .ok (.aload_n 0, 1) := by decide +kernel
theorem dJ7_copyOf_6403c_30 : decode cJ7_copyOf_6403c 30 = .ok (.arraylength, 1) := by decide +kernel
theorem dJ7_copyOf_6403c_31 : decode cJ7_copyOf_6403c 31 = .ok (.iload_n 1, 1) := by decide +kernel
theorem dJ7_copyOf_6403c_32 : decode cJ7_copyOf_6403c 32 = .ok (.invokestatic 304, 3) := by decide +kernel
theorem dJ7_copyOf_6403c_35 : decode cJ7_copyOf_6403c 35 = .ok (.invokestatic 150, 3) := by decide +kernel
theorem dJ7_copyOf_6403c_38 : decode cJ7_copyOf_6403c 38 = .ok (.aload_n 3, 1) := by decide +kernel
theorem dJ7_copyOf_6403c_39 : decode cJ7_copyOf_6403c 39 = .ok (.areturn, 1) := by decide +kernel
set_option maxRecDepth 20000 in
theorem ggJ15_checkIndex_7cf53_J3_checkIndex_8e157 : GoodIn wsJ15_checkIndex_7cf53 wsJ3_checkIndex_8e157 := goodIn_r _ [4] rfl (by decide +kernel)
set_option maxRecDepth 20000 in
theorem gJ15_checkIndex_7cf53_J3_checkIndex_8e157 : GoodIn wsJ15_checkIndex_7cf53 (va_wsS RJ15 105 yJ3_checkIndex_8e157 wsJ3_checkIndex_8e157) := goodIn_app (goodIn_of _ (by decide +kernel)) ggJ15_checkIndex_7cf53_J3_checkIndex_8e157
theorem dJ15_checkIndex_7cf53_0 : decode cJ15_checkIndex_7cf53 0 = .ok (.iload_n 0, 1) := by decide +kernel
theorem dJ15_checkIndex_7cf53_1 : decode cJ15_checkIndex_7cf53 1 = .ok (.iload_n 1, 1) := by decide +kernel
theorem dJ15_checkIndex_7cf53_2 : decode cJ15_checkIndex_7cf53 2 = .ok (.aconst_null, 1) := by decide +kernel
theorem dJ15_checkIndex_7cf53_3 : decode cJ15_checkIndex_7cf53 3 = .ok (.invokestatic 105, 3) := by decide +kernel
theorem dJ15_checkIndex_7cf53_6 : decode cJ15_checkIndex_7cf53 6 = .ok (.ireturn, 1) := by decide +kernel
set_option maxRecDepth 20000 in
theorem ggJ8_newLength_cabcc_J8_hugeLength_7cf53 : GoodIn wsJ8_newLength_cabcc wsJ8_hugeLength_7cf53 := goodIn_r _ [9, 5] rfl (by decide +kernel)
set_option maxRecDepth 20000 in
theorem gJ8_newLength_cabcc_J8_hugeLength_7cf53 : GoodIn wsJ8_newLength_cabcc (va_wsS RJ8 201 yJ8_hugeLength_7cf53 wsJ8_hugeLength_7cf53) := goodIn_app (goodIn_of _ (by decide +kernel)) ggJ8_newLength_cabcc_J8_hugeLength_7cf53
theorem dJ8_newLength_cabcc_0 : decode cJ8_newLength_cabcc 0 = .ok (.iload_n 0, 1) := by decide +kernel
theorem dJ8_newLength_cabcc_1 : decode cJ8_newLength_cabcc 1 = .ok (.iload_n 1, 1) := by decide +kernel
theorem dJ8_newLength_cabcc_2 : decode cJ8_newLength_cabcc 2 = .ok (.iload_n 2, 1) := by decide +kernel
theorem dJ8_newLength_cabcc_3 : decode cJ8_newLength_cabcc 3 = .ok (.invokestatic 194, 3) := by decide +kernel
theorem dJ8_newLength_cabcc_6 : decode cJ8_newLength_cabcc 6 = .ok (.iadd, 1) := by decide +kernel
theorem dJ8_newLength_cabcc_7 : decode cJ8_newLength_cabcc 7 = .ok (.istore_n 3, 1) := by decide +kernel
theorem dJ8_newLength_cabcc_8 : decode cJ8_newLength_cabcc 8 = .ok (.iconst 0, 1) := by decide +kernel
theorem dJ8_newLength_cabcc_9 : decode cJ8_newLength_cabcc 9 = .ok (.iload_n 3, 1) := by decide +kernel
theorem dJ8_newLength_cabcc_10 : decode cJ8_newLength_cabcc 10 = .ok (.if_icmp .ge 11, 3) := by decide +kernel
theorem dJ8_newLength_cabcc_13 : decode cJ8_newLength_cabcc 13 = .ok (.iload_n 3, 1) := by decide +kernel
theorem dJ8_newLength_cabcc_14 : decode cJ8_newLength_cabcc 14 = .ok (.ldc 200, 2) := by decide +kernel
theorem dJ8_newLength_cabcc_16 : decode cJ8_newLength_cabcc 16 = .ok (.if_icmp .gt 5, 3) := by decide +kernel
theorem dJ8_newLength_cabcc_19 : decode cJ8_newLength_cabcc 19 = .ok (.iload_n 3, 1) := by decide +kernel
theorem dJ8_newLength_cabcc_20 : decode cJ8_newLength_cabcc 20 = .ok (.ireturn, 1) := by decide +kernel
theorem dJ8_newLength_cabcc_21 : decode cJ8_newLength_cabcc 21 = .ok (.iload_n 0, 1) := by decide +kernel
theorem dJ8_newLength_cabcc_22 : decode cJ8_newLength_cabcc 22 = .ok (.iload_n 1, 1) := by decide +kernel
theorem dJ8_newLength_cabcc_23 : decode cJ8_newLength_cabcc 23 = .ok (.invokestatic 201, 3) := by decide +kernel
theorem dJ8_newLength_cabcc_26 : decode cJ8_newLength_cabcc 26 = .ok (.ireturn, 1) := by decide +kernel
theorem dJ8_hugeLength_7cf53_0 : decode cJ8_hugeLength_7cf53 0 = .ok (.iload_n 0, 1) := by decide +kernel
theorem dJ8_hugeLength_7cf53_1 : decode cJ8_hugeLength_7cf53 1 = .ok (.iload_n 1, 1) := by decide +kernel
theorem dJ8_hugeLength_7cf53_2 : decode cJ8_hugeLength_7cf53 2 = .ok (.iadd, 1) := by decide +kernel
theorem dJ8_hugeLength_7cf53_3 : decode cJ8_hugeLength_7cf53 3 = .ok (.istore_n 2, 1) := by decide +kernel
theorem dJ8_hugeLength_7cf53_4 : decode cJ8_hugeLength_7cf53 4 = .ok (.iload_n 2, 1) := by decide +kernel
theorem dJ8_hugeLength_7cf53_5 : decode cJ8_hugeLength_7cf53 5 = .ok (.ifCond .ge 44, 3) := by decide +kernel
theorem dJ8_hugeLength_7cf53_8 : decode cJ8_hugeLength_7cf53 8 = .ok (.new 204, 3) := by decide +kernel
theorem dJ8_hugeLength_7cf53_11 : decode cJ8_hugeLength_7cf53 11 = .ok (.dup, 1) := by decide +kernel
theorem dJ8_hugeLength_7cf53_12 : decode cJ8_hugeLength_7cf53 12 = .ok (.new 89, 3) := by decide +kernel
theorem dJ8_hugeLength_7cf53_15 : decode cJ8_hugeLength_7cf53 15 = .ok (.dup, 1) := by decide +kernel
theorem dJ8_hugeLength_7cf53_16 : decode cJ8_hugeLength_7cf53 16 = .ok (.invokespecial 91, 3) := by decide +kernel
theorem dJ8_hugeLength_7cf53_19 : decode cJ8_hugeLength_7cf53 19 = .ok (.ldc 206, 2) := by decide +kernel
theorem dJ8_hugeLength_7cf53_21 : decode cJ8_hugeLength_7cf53 21 = .ok (.invokevirtual 94, 3) := by decide +kernel
theorem dJ8_hugeLength_7cf53_24 : decode cJ8_hugeLength_7cf53 24 = .ok (.iload_n 0, 1) := by decide +kernel
theorem dJ8_hugeLength_7cf53_25 : decode cJ8_hugeLength_7cf53 25 = .ok (.invokevirtual 98, 3) := by decide +kernel
theorem dJ8_hugeLength_7cf53_28 : decode cJ8_hugeLength_7cf53 28 = .ok (.ldc 208, 2) := by decide +kernel
theorem dJ8_hugeLength_7cf53_30 : decode cJ8_hugeLength_7cf53 30 = .ok (.invokevirtual 94, 3) := by decide +kernel
theorem dJ8_hugeLength_7cf53_33 : decode cJ8_hugeLength_7cf53 33 = .ok (.iload_n 1, 1) := by decide +kernel
theorem dJ8_hugeLength_7cf53_34 : decode cJ8_hugeLength_7cf53 34 = .ok (.invokevirtual 98, 3) := by decide +kernel
theorem dJ8_hugeLength_7cf53_37 : decode cJ8_hugeLength_7cf53 37 = .ok (.ldc 210, 2) := by decide +kernel
theorem dJ8_hugeLength_7cf53_39 : decode cJ8_hugeLength_7cf53 39 = .ok (.invokevirtual 94, 3) := by decide +kernel
theorem dJ8_hugeLength_7cf53_42 : decode cJ8_hugeLength_7cf53 42 = .ok (.invokevirtual 101, 3) := by decide +kernel
theorem dJ8_hugeLength_7cf53_45 : decode cJ8_hugeLength_7cf53 45 = .ok (.invokespecial 212, 3) := by decide +kernel
theorem dJ8_hugeLength_7cf53_48 : decode cJ8_hugeLength_7cf53 48 = .ok (.athrow, 1) := by decide +kernel
theorem dJ8_hugeLength_7cf53_49 : decode cJ8_hugeLength_7cf53 49 = .ok (.iload_n 2, 1) := by decide +kernel
theorem dJ8_hugeLength_7cf53_50 : decode cJ8_hugeLength_7cf53 50 = .ok (.ldc 200, 2) := by decide +kernel
theorem dJ8_hugeLength_7cf53_52 : decode cJ8_hugeLength_7cf53 52 = .ok (.if_icmp .gt 6, 3) := by decide +kernel
theorem dJ8_hugeLength_7cf53_55 : decode cJ8_hugeLength_7cf53 55 = .ok (.ldc 200, 2) := by decide +kernel
theorem dJ8_hugeLength_7cf53_57 : decode cJ8_hugeLength_7cf53 57 = .ok (.ireturn, 1) := by decide +kernel
theorem dJ8_hugeLength_7cf53_58 : decode cJ8_hugeLength_7cf53 58 = .ok (.iload_n 2, 1) := by decide +kernel
theorem dJ8_hugeLength_7cf53_59 : decode cJ8_hugeLength_7cf53 59 = .ok (.ireturn, 1) := by decide +kernel
theorem dJ3_checkIndex_8e157_0 : decode cJ3_checkIndex_8e157 0 = .ok (.iload_n 0, 1) := by decide +kernel
theorem dJ3_checkIndex_8e157_1 : decode cJ3_checkIndex_8e157 1 = .ok (.ifCond .lt 8, 3) := by decide +kernel
theorem dJ3_checkIndex_8e157_4 : decode cJ3_checkIndex_8e157 4 = .ok (.iload_n 0, 1) := by decide +kernel
theorem dJ3_checkIndex_8e157_5 : decode cJ3_checkIndex_8e157 5 = .ok (.iload_n 1, 1) := by decide +kernel
theorem dJ3_checkIndex_8e157_6 : decode cJ3_checkIndex_8e157 6 = .ok (.if_icmp .lt 10, 3) := by decide +kernel
theorem dJ3_checkIndex_8e157_9 : decode cJ3_checkIndex_8e157 9 = .ok (.aload_n 2, 1) := by decide +kernel
theorem dJ3_checkIndex_8e157_10 : decode cJ3_checkIndex_8e157 10 = .ok (.iload_n 0, 1) := by decide +kernel
theorem dJ3_checkIndex_8e157_11 : decode cJ3_checkIndex_8e157 11 = .ok (.iload_n 1, 1) := by decide +kernel
theorem dJ3_checkIndex_8e157_12 : decode cJ3_checkIndex_8e157 12 = .ok (.invokestatic 95, 3) := by decide +kernel
theorem dJ3_checkIndex_8e157_15 : decode cJ3_checkIndex_8e157 15 = .ok (.athrow, 1) := by decide +kernel
theorem dJ3_checkIndex_8e157_16 : decode cJ3_checkIndex_8e157 16 = .ok (.iload_n 0, 1) := by decide +kernel
theorem dJ3_checkIndex_8e157_17 : decode cJ3_checkIndex_8e157 17 = .ok (.ireturn, 1) := by decide +kernel
set_option maxRecDepth 20000 in
theorem ggL_law_X5_init : GoodIn wsL_law wsX5_init := goodIn_g wsL_chunks wsL_chunks_in wsX5_init [(0, 8), (0, 9), (0, 10), (0, 11), (0, 12), (0, 13), (0, 14), (0, 15), (0, 16), (0, 17), (0, 18), (0, 19), (0, 20), (0, 21), (0, 22), (0, 23), (1, 0), (1, 1), (1, 2), (1, 3), (1, 4), (1, 5), (1, 6), (1, 7), (1, 8), (1, 9), (1, 10), (1, 11), (1, 12), (1, 13), (1, 14), (1, 15), (1, 16), (1, 17), (1, 18), (1, 19), (1, 20), (1, 21), (1, 22), (1, 23), (2, 0), (2, 1), (2, 2), (2, 3), (2, 4), (2, 5), (2, 6), (2, 7), (2, 8), (2, 9), (2, 10), (2, 11), (2, 12), (2, 13), (2, 14), (35, 0), (35, 1), (35, 2), (33, 0), (33, 1), (33, 2), (33, 3), (33, 4), (33, 5), (33, 6), (33, 7), (33, 8), (33, 9), (33, 10), (33, 11), (36, 0), (36, 1), (37, 0), (37, 1), (37, 2)] rfl (by decide +kernel)
set_option maxRecDepth 20000 in
theorem gL_law_X5_init : GoodIn wsL_law (wsX5_init) := ggL_law_X5_init
set_option maxRecDepth 20000 in
theorem ggL_law_X6_init : GoodIn wsL_law wsX6_init := goodIn_g wsL_chunks wsL_chunks_in wsX6_init [(2, 17), (2, 18), (0, 10), (0, 11), (1, 0), (2, 19), (1, 13), (2, 20), (2, 21), (2, 22), (2, 23), (3, 0), (3, 1), (3, 2), (3, 3), (3, 4), (3, 5), (3, 6), (3, 7), (3, 8), (3, 9), (3, 10), (3, 11), (3, 12), (3, 13), (3, 14), (3, 15), (3, 16), (3, 17), (3, 18), (34, 0), (34, 1), (34, 2), (34, 3), (34, 4), (34, 5), (34, 6), (34, 7), (34, 8), (34, 9), (34, 10), (34, 11), (34, 12), (34, 13), (34, 14), (34, 15), (34, 16), (34, 17), (34, 18), (34, 19), (34, 20), (34, 21), (34, 22), (34, 23), (34, 24), (34, 25), (34, 26), (34, 27), (34, 28), (34, 29), (34, 30)] rfl (by decide +kernel)
set_option maxRecDepth 20000 in
theorem gL_law_X6_init : GoodIn wsL_law (wsX6_init) := ggL_law_X6_init
set_option maxRecDepth 20000 in
theorem ggL_law_X5_land : GoodIn wsL_law wsX5_land := goodIn_g wsL_chunks wsL_chunks_in wsX5_land [(3, 22), (0, 15), (3, 23), (4, 0), (0, 2), (4, 1), (4, 2), (4, 3), (4, 4), (0, 14), (4, 5), (1, 14), (4, 6), (4, 7), (4, 8), (4, 9), (33, 0), (33, 1), (33, 2), (33, 3), (33, 4), (33, 5), (33, 6), (33, 7), (33, 8), (33, 9), (33, 10), (33, 11), (35, 0), (35, 1), (35, 2)] rfl (by decide +kernel)
set_option maxRecDepth 20000 in
theorem gL_law_X5_land : GoodIn wsL_law (wsV RL 13 RX5 yX5_land wsX5_land) := goodIn_app (goodIn_g wsL_chunks wsL_chunks_in ([.methodLink RL 13 yX5_land, .instanceMethod yX5_land, .selects RX5 yX5_land yX5_land, .initialized RX5] : List Cond) [(3, 19), (3, 20), (3, 21), (0, 2)] (by decide +kernel) (by decide +kernel)) ggL_law_X5_land
set_option maxRecDepth 20000 in
theorem ggL_law_X6_land : GoodIn wsL_law wsX6_land := goodIn_g wsL_chunks wsL_chunks_in wsX6_land [(4, 13), (2, 20), (4, 14), (4, 15), (0, 5), (4, 16), (4, 17), (4, 18), (4, 19), (34, 0), (34, 1), (34, 2), (34, 3), (34, 4), (34, 5), (34, 6), (34, 7), (34, 8), (34, 9), (34, 10), (34, 11), (34, 12), (34, 13), (34, 14), (34, 15), (34, 16), (34, 17), (34, 18), (34, 19), (34, 20), (34, 21), (34, 22), (34, 23), (34, 24), (34, 25), (34, 26), (34, 27), (34, 28), (34, 29), (34, 30)] rfl (by decide +kernel)
set_option maxRecDepth 20000 in
theorem gL_law_X6_land : GoodIn wsL_law (wsV RL 17 RX6 yX6_land wsX6_land) := goodIn_app (goodIn_g wsL_chunks wsL_chunks_in ([.methodLink RL 17 yX6_land, .instanceMethod yX6_land, .selects RX6 yX6_land yX6_land, .initialized RX6] : List Cond) [(4, 10), (4, 11), (4, 12), (0, 5)] (by decide +kernel) (by decide +kernel)) ggL_law_X6_land
set_option maxRecDepth 20000 in
theorem ggL_law_X5_chart : GoodIn wsL_law wsX5_chart := goodIn_g wsL_chunks wsL_chunks_in wsX5_chart [(4, 23), (0, 15), (3, 23), (4, 0), (0, 2), (4, 1), (5, 0), (5, 1), (5, 2), (0, 14), (5, 3), (1, 15), (5, 4), (5, 5), (5, 6), (5, 7), (1, 18), (5, 8), (5, 9), (5, 10), (5, 11), (33, 0), (33, 1), (33, 2), (33, 3), (33, 4), (33, 5), (33, 6), (33, 7), (33, 8), (33, 9), (33, 10), (33, 11), (35, 0), (35, 1), (35, 2)] rfl (by decide +kernel)
set_option maxRecDepth 20000 in
theorem gL_law_X5_chart : GoodIn wsL_law (wsV RL 18 RX5 yX5_chart wsX5_chart) := goodIn_app (goodIn_g wsL_chunks wsL_chunks_in ([.methodLink RL 18 yX5_chart, .instanceMethod yX5_chart, .selects RX5 yX5_chart yX5_chart, .initialized RX5] : List Cond) [(4, 20), (4, 21), (4, 22), (0, 2)] (by decide +kernel) (by decide +kernel)) ggL_law_X5_chart
set_option maxRecDepth 20000 in
theorem ggL_law_X6_chart : GoodIn wsL_law wsX6_chart := goodIn_g wsL_chunks wsL_chunks_in wsX6_chart [(5, 15), (2, 21), (2, 22), (5, 16), (5, 17), (0, 5), (5, 18), (4, 17), (4, 18), (4, 19), (34, 0), (34, 1), (34, 2), (34, 3), (34, 4), (34, 5), (34, 6), (34, 7), (34, 8), (34, 9), (34, 10), (34, 11), (34, 12), (34, 13), (34, 14), (34, 15), (34, 16), (34, 17), (34, 18), (34, 19), (34, 20), (34, 21), (34, 22), (34, 23), (34, 24), (34, 25), (34, 26), (34, 27), (34, 28), (34, 29), (34, 30)] rfl (by decide +kernel)
set_option maxRecDepth 20000 in
theorem gL_law_X6_chart : GoodIn wsL_law (wsV RL 22 RX6 yX6_chart wsX6_chart) := goodIn_app (goodIn_g wsL_chunks wsL_chunks_in ([.methodLink RL 22 yX6_chart, .instanceMethod yX6_chart, .selects RX6 yX6_chart yX6_chart, .initialized RX6] : List Cond) [(5, 12), (5, 13), (5, 14), (0, 5)] (by decide +kernel) (by decide +kernel)) ggL_law_X6_chart
set_option maxRecDepth 20000 in
theorem ggL_law_X5_wind : GoodIn wsL_law wsX5_wind := goodIn_g wsL_chunks wsL_chunks_in wsX5_wind [(5, 22), (0, 15), (3, 23), (4, 0), (0, 2), (4, 1), (5, 0), (5, 1), (5, 2), (0, 14), (5, 3), (1, 15), (5, 23), (6, 0), (6, 1), (6, 2), (1, 2), (1, 1), (6, 3), (6, 4), (6, 5), (6, 6), (1, 18), (6, 7), (6, 8), (6, 9), (6, 10), (6, 11), (33, 0), (33, 1), (33, 2), (33, 3), (33, 4), (33, 5), (33, 6), (33, 7), (33, 8), (33, 9), (33, 10), (33, 11), (35, 0), (35, 1), (35, 2)] rfl (by decide +kernel)
set_option maxRecDepth 20000 in
theorem gL_law_X5_wind : GoodIn wsL_law (wsV RL 23 RX5 yX5_wind wsX5_wind) := goodIn_app (goodIn_g wsL_chunks wsL_chunks_in ([.methodLink RL 23 yX5_wind, .instanceMethod yX5_wind, .selects RX5 yX5_wind yX5_wind, .initialized RX5] : List Cond) [(5, 19), (5, 20), (5, 21), (0, 2)] (by decide +kernel) (by decide +kernel)) ggL_law_X5_wind
set_option maxRecDepth 20000 in
theorem ggL_law_X6_wind : GoodIn wsL_law wsX6_wind := goodIn_g wsL_chunks wsL_chunks_in wsX6_wind [(6, 15), (2, 22), (6, 16), (6, 17), (6, 18), (0, 5), (6, 19), (2, 21), (5, 16), (5, 17), (5, 18), (4, 17), (4, 18), (4, 19), (6, 20), (6, 21), (6, 22), (6, 23), (7, 0), (2, 19), (4, 14), (4, 15), (4, 16), (34, 0), (34, 1), (34, 2), (34, 3), (34, 4), (34, 5), (34, 6), (34, 7), (34, 8), (34, 9), (34, 10), (34, 11), (34, 12), (34, 13), (34, 14), (34, 15), (34, 16), (34, 17), (34, 18), (34, 19), (34, 20), (34, 21), (34, 22), (34, 23), (34, 24), (34, 25), (34, 26), (34, 27), (34, 28), (34, 29), (34, 30)] rfl (by decide +kernel)
set_option maxRecDepth 20000 in
theorem gL_law_X6_wind : GoodIn wsL_law (wsV RL 27 RX6 yX6_wind wsX6_wind) := goodIn_app (goodIn_g wsL_chunks wsL_chunks_in ([.methodLink RL 27 yX6_wind, .instanceMethod yX6_wind, .selects RX6 yX6_wind yX6_wind, .initialized RX6] : List Cond) [(6, 12), (6, 13), (6, 14), (0, 5)] (by decide +kernel) (by decide +kernel)) ggL_law_X6_wind
set_option maxRecDepth 20000 in
theorem ggL_law_X5_tear : GoodIn wsL_law wsX5_tear := goodIn_g wsL_chunks wsL_chunks_in wsX5_tear [(7, 4), (0, 15), (3, 23), (4, 0), (0, 2), (4, 1), (5, 0), (5, 1), (5, 2), (0, 14), (5, 3), (1, 15), (5, 23), (6, 0), (6, 1), (6, 2), (1, 2), (1, 1), (7, 5), (7, 6), (7, 7), (7, 8), (33, 0), (33, 1), (33, 2), (33, 3), (33, 4), (33, 5), (33, 6), (33, 7), (33, 8), (33, 9), (33, 10), (33, 11), (35, 0), (35, 1), (35, 2)] rfl (by decide +kernel)
set_option maxRecDepth 20000 in
theorem gL_law_X5_tear : GoodIn wsL_law (wsV RL 28 RX5 yX5_tear wsX5_tear) := goodIn_app (goodIn_g wsL_chunks wsL_chunks_in ([.methodLink RL 28 yX5_tear, .instanceMethod yX5_tear, .selects RX5 yX5_tear yX5_tear, .initialized RX5] : List Cond) [(7, 1), (7, 2), (7, 3), (0, 2)] (by decide +kernel) (by decide +kernel)) ggL_law_X5_tear
set_option maxRecDepth 20000 in
theorem ggL_law_X6_tear : GoodIn wsL_law wsX6_tear := goodIn_g wsL_chunks wsL_chunks_in wsX6_tear [(7, 12), (2, 21), (6, 16), (6, 17), (6, 18), (0, 5), (6, 19), (5, 16), (5, 17), (5, 18), (4, 17), (4, 18), (4, 19), (6, 20), (6, 21), (6, 22), (6, 23), (7, 0), (2, 19), (34, 0), (34, 1), (34, 2), (34, 3), (34, 4), (34, 5), (34, 6), (34, 7), (34, 8), (34, 9), (34, 10), (34, 11), (34, 12), (34, 13), (34, 14), (34, 15), (34, 16), (34, 17), (34, 18), (34, 19), (34, 20), (34, 21), (34, 22), (34, 23), (34, 24), (34, 25), (34, 26), (34, 27), (34, 28), (34, 29), (34, 30)] rfl (by decide +kernel)
set_option maxRecDepth 20000 in
theorem gL_law_X6_tear : GoodIn wsL_law (wsV RL 31 RX6 yX6_tear wsX6_tear) := goodIn_app (goodIn_g wsL_chunks wsL_chunks_in ([.methodLink RL 31 yX6_tear, .instanceMethod yX6_tear, .selects RX6 yX6_tear yX6_tear, .initialized RX6] : List Cond) [(7, 9), (7, 10), (7, 11), (0, 5)] (by decide +kernel) (by decide +kernel)) ggL_law_X6_tear
set_option maxRecDepth 20000 in
theorem ggL_law_X5_copy : GoodIn wsL_law wsX5_copy := goodIn_g wsL_chunks wsL_chunks_in wsX5_copy [(7, 16), (0, 15), (3, 23), (4, 0), (0, 2), (4, 1), (5, 23), (6, 0), (6, 1), (6, 2), (1, 2), (1, 1), (5, 0), (5, 1), (5, 2), (0, 14), (5, 3), (1, 15), (7, 17), (7, 18), (7, 19), (7, 20), (1, 18), (7, 21), (7, 22), (7, 23), (8, 0), (6, 7), (33, 0), (33, 1), (33, 2), (33, 3), (33, 4), (33, 5), (33, 6), (33, 7), (33, 8), (33, 9), (33, 10), (33, 11), (35, 0), (35, 1), (35, 2)] rfl (by decide +kernel)
set_option maxRecDepth 20000 in
theorem gL_law_X5_copy : GoodIn wsL_law (wsV RL 32 RX5 yX5_copy wsX5_copy) := goodIn_app (goodIn_g wsL_chunks wsL_chunks_in ([.methodLink RL 32 yX5_copy, .instanceMethod yX5_copy, .selects RX5 yX5_copy yX5_copy, .initialized RX5] : List Cond) [(7, 13), (7, 14), (7, 15), (0, 2)] (by decide +kernel) (by decide +kernel)) ggL_law_X5_copy
set_option maxRecDepth 20000 in
theorem ggL_law_X6_copy : GoodIn wsL_law wsX6_copy := goodIn_g wsL_chunks wsL_chunks_in wsX6_copy [(8, 4), (2, 21), (8, 5), (2, 23), (2, 22), (5, 16), (5, 17), (0, 5), (5, 18), (4, 17), (4, 18), (4, 19), (6, 20), (6, 21), (6, 22), (6, 23), (7, 0), (2, 19), (34, 0), (34, 1), (34, 2), (34, 3), (34, 4), (34, 5), (34, 6), (34, 7), (34, 8), (34, 9), (34, 10), (34, 11), (34, 12), (34, 13), (34, 14), (34, 15), (34, 16), (34, 17), (34, 18), (34, 19), (34, 20), (34, 21), (34, 22), (34, 23), (34, 24), (34, 25), (34, 26), (34, 27), (34, 28), (34, 29), (34, 30)] rfl (by decide +kernel)
set_option maxRecDepth 20000 in
theorem gL_law_X6_copy : GoodIn wsL_law (wsV RL 36 RX6 yX6_copy wsX6_copy) := goodIn_app (goodIn_g wsL_chunks wsL_chunks_in ([.methodLink RL 36 yX6_copy, .instanceMethod yX6_copy, .selects RX6 yX6_copy yX6_copy, .initialized RX6] : List Cond) [(8, 1), (8, 2), (8, 3), (0, 5)] (by decide +kernel) (by decide +kernel)) ggL_law_X6_copy
set_option maxRecDepth 20000 in
theorem ggL_law_X5_mean : GoodIn wsL_law wsX5_mean := goodIn_g wsL_chunks wsL_chunks_in wsX5_mean [(8, 9), (0, 15), (3, 23), (4, 0), (0, 2), (4, 1), (5, 0), (5, 1), (5, 2), (0, 14), (5, 3), (1, 15), (5, 23), (6, 0), (6, 1), (6, 2), (1, 2), (1, 1), (8, 10), (8, 11), (8, 12), (8, 13), (1, 18), (8, 14), (8, 15), (8, 16), (33, 0), (33, 1), (33, 2), (33, 3), (33, 4), (33, 5), (33, 6), (33, 7), (33, 8), (33, 9), (33, 10), (33, 11), (35, 0), (35, 1), (35, 2)] rfl (by decide +kernel)
set_option maxRecDepth 20000 in
theorem gL_law_X5_mean : GoodIn wsL_law (wsV RL 37 RX5 yX5_mean wsX5_mean) := goodIn_app (goodIn_g wsL_chunks wsL_chunks_in ([.methodLink RL 37 yX5_mean, .instanceMethod yX5_mean, .selects RX5 yX5_mean yX5_mean, .initialized RX5] : List Cond) [(8, 6), (8, 7), (8, 8), (0, 2)] (by decide +kernel) (by decide +kernel)) ggL_law_X5_mean
set_option maxRecDepth 20000 in
theorem ggL_law_X6_mean : GoodIn wsL_law wsX6_mean := goodIn_g wsL_chunks wsL_chunks_in wsX6_mean [(8, 20), (2, 22), (6, 16), (6, 17), (6, 18), (0, 5), (6, 19), (2, 21), (5, 16), (5, 17), (5, 18), (4, 17), (4, 18), (4, 19), (6, 20), (6, 21), (6, 22), (6, 23), (7, 0), (2, 19), (8, 21), (8, 22), (8, 23), (34, 0), (34, 1), (34, 2), (34, 3), (34, 4), (34, 5), (34, 6), (34, 7), (34, 8), (34, 9), (34, 10), (34, 11), (34, 12), (34, 13), (34, 14), (34, 15), (34, 16), (34, 17), (34, 18), (34, 19), (34, 20), (34, 21), (34, 22), (34, 23), (34, 24), (34, 25), (34, 26), (34, 27), (34, 28), (34, 29), (34, 30)] rfl (by decide +kernel)
set_option maxRecDepth 20000 in
theorem gL_law_X6_mean : GoodIn wsL_law (wsV RL 40 RX6 yX6_mean wsX6_mean) := goodIn_app (goodIn_g wsL_chunks wsL_chunks_in ([.methodLink RL 40 yX6_mean, .instanceMethod yX6_mean, .selects RX6 yX6_mean yX6_mean, .initialized RX6] : List Cond) [(8, 17), (8, 18), (8, 19), (0, 5)] (by decide +kernel) (by decide +kernel)) ggL_law_X6_mean
set_option maxRecDepth 20000 in
theorem ggL_law_X5_ship : GoodIn wsL_law wsX5_ship := goodIn_g wsL_chunks wsL_chunks_in wsX5_ship [(9, 3), (0, 23), (1, 3), (9, 4), (9, 5), (9, 6), (3, 23), (4, 0), (0, 2), (4, 1), (9, 7), (9, 8), (9, 9), (9, 10), (0, 15), (4, 2), (4, 3), (4, 4), (0, 14), (4, 5), (1, 14), (9, 11), (9, 12), (9, 13), (0, 22), (9, 14), (9, 15), (9, 16), (9, 17), (9, 18), (9, 19), (0, 10), (0, 11), (9, 20), (0, 21), (9, 21), (9, 22), (9, 23), (10, 0), (10, 1), (10, 2), (10, 3), (10, 4), (10, 5), (10, 6), (10, 7), (10, 8), (10, 9), (10, 10), (10, 11), (2, 1), (2, 2), (2, 3), (2, 4), (2, 5), (2, 6), (2, 7), (2, 8), (2, 9), (2, 10), (2, 11), (2, 12), (2, 13), (2, 14), (10, 12), (10, 13), (10, 14), (10, 15), (10, 16), (10, 17), (10, 18), (10, 19), (10, 20), (10, 21), (10, 22), (10, 23), (11, 0), (11, 1), (11, 2), (11, 3), (11, 4), (11, 5), (11, 6), (11, 7), (11, 8), (11, 9), (11, 10), (11, 11), (11, 12), (11, 13), (11, 14), (11, 15), (11, 16), (11, 17), (11, 18), (11, 19), (11, 20), (11, 21), (5, 10), (11, 22), (11, 23), (12, 0), (12, 1), (12, 2), (12, 3), (12, 4), (12, 5), (12, 6), (12, 7), (12, 8), (12, 9), (12, 10), (12, 11), (7, 22), (7, 23), (8, 0), (33, 0), (33, 1), (33, 2), (33, 3), (33, 4), (33, 5), (33, 6), (33, 7), (33, 8), (33, 9), (33, 10), (33, 11), (38, 0), (38, 1), (38, 2), (38, 3), (38, 4), (38, 5), (38, 6), (38, 7), (38, 8), (38, 9), (38, 10), (38, 11), (38, 12), (38, 13), (35, 0), (35, 1), (35, 2), (37, 0), (37, 1), (37, 2)] rfl (by decide +kernel)
set_option maxRecDepth 20000 in
theorem gL_law_X5_ship : GoodIn wsL_law (wsV RL 41 RX5 yX5_ship wsX5_ship) := goodIn_app (goodIn_g wsL_chunks wsL_chunks_in ([.methodLink RL 41 yX5_ship, .instanceMethod yX5_ship, .selects RX5 yX5_ship yX5_ship, .initialized RX5] : List Cond) [(9, 0), (9, 1), (9, 2), (0, 2)] (by decide +kernel) (by decide +kernel)) ggL_law_X5_ship
set_option maxRecDepth 20000 in
theorem ggL_law_X6_ship : GoodIn wsL_law wsX6_ship := goodIn_g wsL_chunks wsL_chunks_in wsX6_ship [(12, 15), (2, 20), (12, 16), (12, 17), (3, 0), (3, 1), (3, 5), (3, 4), (4, 17), (4, 18), (0, 5), (4, 19), (4, 14), (4, 15), (4, 16), (34, 0), (34, 1), (34, 2), (34, 3), (34, 4), (34, 5), (34, 6), (34, 7), (34, 8), (34, 9), (34, 10), (34, 11), (34, 12), (34, 13), (34, 14), (34, 15), (34, 16), (34, 17), (34, 18), (34, 19), (34, 20), (34, 21), (34, 22), (34, 23), (34, 24), (34, 25), (34, 26), (34, 27), (34, 28), (34, 29), (34, 30)] rfl (by decide +kernel)
set_option maxRecDepth 20000 in
theorem gL_law_X6_ship : GoodIn wsL_law (wsV RL 44 RX6 yX6_ship wsX6_ship) := goodIn_app (goodIn_g wsL_chunks wsL_chunks_in ([.methodLink RL 44 yX6_ship, .instanceMethod yX6_ship, .selects RX6 yX6_ship yX6_ship, .initialized RX6] : List Cond) [(12, 12), (12, 13), (12, 14), (0, 5)] (by decide +kernel) (by decide +kernel)) ggL_law_X6_ship
set_option maxRecDepth 20000 in
theorem ggL_law_X5_foul : GoodIn wsL_law wsX5_foul := goodIn_g wsL_chunks wsL_chunks_in wsX5_foul [(12, 21), (12, 22), (12, 23), (13, 0), (13, 1), (0, 2), (13, 2), (0, 23), (13, 3), (9, 11), (9, 12), (9, 13), (0, 22), (9, 14), (9, 15), (13, 4), (13, 5), (13, 6), (13, 7), (13, 8), (13, 9), (13, 10), (13, 11), (13, 12), (13, 13), (13, 14), (13, 15), (13, 16), (13, 17), (13, 18), (13, 19), (2, 4), (3, 23), (4, 0), (4, 1), (38, 0), (38, 1), (38, 2), (38, 3), (38, 4), (38, 5), (38, 6), (38, 7), (38, 8), (38, 9), (38, 10), (38, 11), (38, 12), (38, 13), (33, 0), (33, 1), (33, 2), (33, 3), (33, 4), (33, 5), (33, 6), (33, 7), (33, 8), (33, 9), (33, 10), (33, 11), (37, 0), (37, 1), (37, 2)] rfl (by decide +kernel)
set_option maxRecDepth 20000 in
theorem gL_law_X5_foul : GoodIn wsL_law (wsV RL 45 RX5 yX5_foul wsX5_foul) := goodIn_app (goodIn_g wsL_chunks wsL_chunks_in ([.methodLink RL 45 yX5_foul, .instanceMethod yX5_foul, .selects RX5 yX5_foul yX5_foul, .initialized RX5] : List Cond) [(12, 18), (12, 19), (12, 20), (0, 2)] (by decide +kernel) (by decide +kernel)) ggL_law_X5_foul
set_option maxRecDepth 20000 in
theorem ggL_law_X6_foul : GoodIn wsL_law wsX6_foul := goodIn_g wsL_chunks wsL_chunks_in wsX6_foul [(13, 23), (3, 6), (14, 0), (14, 1), (14, 2), (0, 5), (14, 3), (12, 16), (4, 17), (4, 18), (4, 19), (34, 0), (34, 1), (34, 2), (34, 3), (34, 4), (34, 5), (34, 6), (34, 7), (34, 8), (34, 9), (34, 10), (34, 11), (34, 12), (34, 13), (34, 14), (34, 15), (34, 16), (34, 17), (34, 18), (34, 19), (34, 20), (34, 21), (34, 22), (34, 23), (34, 24), (34, 25), (34, 26), (34, 27), (34, 28), (34, 29), (34, 30)] rfl (by decide +kernel)
set_option maxRecDepth 20000 in
theorem gL_law_X6_foul : GoodIn wsL_law (wsV RL 49 RX6 yX6_foul wsX6_foul) := goodIn_app (goodIn_g wsL_chunks wsL_chunks_in ([.methodLink RL 49 yX6_foul, .instanceMethod yX6_foul, .selects RX6 yX6_foul yX6_foul, .initialized RX6] : List Cond) [(13, 20), (13, 21), (13, 22), (0, 5)] (by decide +kernel) (by decide +kernel)) ggL_law_X6_foul
set_option maxRecDepth 20000 in
theorem ggL_law_X5_told : GoodIn wsL_law wsX5_told := goodIn_g wsL_chunks wsL_chunks_in wsX5_told [(14, 7), (14, 8), (14, 9), (14, 10), (14, 11), (14, 12), (14, 13), (14, 14), (12, 23), (13, 0), (13, 1), (0, 2), (13, 2), (0, 23), (13, 3), (9, 11), (9, 12), (9, 13), (0, 22), (9, 14), (9, 15), (13, 4), (13, 5), (13, 6), (13, 7), (13, 8), (13, 9), (13, 10), (13, 11), (13, 12), (13, 13), (13, 14), (13, 15), (13, 16), (13, 17), (13, 18), (13, 19), (2, 4), (38, 0), (38, 1), (38, 2), (38, 3), (38, 4), (38, 5), (38, 6), (38, 7), (38, 8), (38, 9), (38, 10), (38, 11), (38, 12), (38, 13), (33, 0), (33, 1), (33, 2), (33, 3), (33, 4), (33, 5), (33, 6), (33, 7), (33, 8), (33, 9), (33, 10), (33, 11), (37, 0), (37, 1), (37, 2)] rfl (by decide +kernel)
set_option maxRecDepth 20000 in
theorem gL_law_X5_told : GoodIn wsL_law (wsV RL 50 RX5 yX5_told wsX5_told) := goodIn_app (goodIn_g wsL_chunks wsL_chunks_in ([.methodLink RL 50 yX5_told, .instanceMethod yX5_told, .selects RX5 yX5_told yX5_told, .initialized RX5] : List Cond) [(14, 4), (14, 5), (14, 6), (0, 2)] (by decide +kernel) (by decide +kernel)) ggL_law_X5_told
set_option maxRecDepth 20000 in
theorem ggL_law_X6_told : GoodIn wsL_law wsX6_told := goodIn_g wsL_chunks wsL_chunks_in wsX6_told [(14, 18), (14, 0), (14, 1), (14, 2), (0, 5), (14, 3), (12, 16), (4, 17), (4, 18), (4, 19), (14, 19), (14, 20), (14, 21), (14, 22), (3, 0), (3, 1), (3, 2), (3, 3), (3, 4), (3, 5), (14, 23), (15, 0), (15, 1), (15, 2), (15, 3), (34, 0), (34, 1), (34, 2), (34, 3), (34, 4), (34, 5), (34, 6), (34, 7), (34, 8), (34, 9), (34, 10), (34, 11), (34, 12), (34, 13), (34, 14), (34, 15), (34, 16), (34, 17), (34, 18), (34, 19), (34, 20), (34, 21), (34, 22), (34, 23), (34, 24), (34, 25), (34, 26), (34, 27), (34, 28), (34, 29), (34, 30)] rfl (by decide +kernel)
set_option maxRecDepth 20000 in
theorem gL_law_X6_told : GoodIn wsL_law (wsV RL 53 RX6 yX6_told wsX6_told) := goodIn_app (goodIn_g wsL_chunks wsL_chunks_in ([.methodLink RL 53 yX6_told, .instanceMethod yX6_told, .selects RX6 yX6_told yX6_told, .initialized RX6] : List Cond) [(14, 15), (14, 16), (14, 17), (0, 5)] (by decide +kernel) (by decide +kernel)) ggL_law_X6_told
set_option maxRecDepth 20000 in
theorem ggL_law_X5_mark : GoodIn wsL_law wsX5_mark := goodIn_g wsL_chunks wsL_chunks_in wsX5_mark [(15, 7), (15, 8), (14, 11), (15, 9), (12, 23), (13, 0), (13, 1), (0, 2), (13, 2), (0, 23), (13, 3), (9, 11), (9, 12), (9, 13), (0, 22), (9, 14), (9, 15), (13, 4), (13, 5), (13, 6), (13, 7), (13, 8), (13, 9), (13, 10), (13, 11), (13, 12), (13, 13), (13, 14), (13, 15), (13, 16), (13, 17), (13, 18), (13, 19), (2, 4), (15, 10), (15, 11), (15, 12), (9, 6), (15, 13), (10, 8), (5, 23), (6, 0), (6, 1), (6, 2), (1, 2), (1, 1), (15, 14), (15, 15), (15, 16), (15, 17), (10, 1), (15, 18), (11, 7), (11, 8), (11, 9), (15, 19), (15, 20), (15, 21), (15, 22), (15, 23), (16, 0), (12, 9), (12, 10), (8, 15), (8, 16), (16, 1), (16, 2), (16, 3), (16, 4), (16, 5), (16, 6), (16, 7), (16, 8), (38, 0), (38, 1), (38, 2), (38, 3), (38, 4), (38, 5), (38, 6), (38, 7), (38, 8), (38, 9), (38, 10), (38, 11), (38, 12), (38, 13), (33, 0), (33, 1), (33, 2), (33, 3), (33, 4), (33, 5), (33, 6), (33, 7), (33, 8), (33, 9), (33, 10), (33, 11), (37, 0), (37, 1), (37, 2)] rfl (by decide +kernel)
set_option maxRecDepth 20000 in
theorem gL_law_X5_mark : GoodIn wsL_law (wsV RL 54 RX5 yX5_mark wsX5_mark) := goodIn_app (goodIn_g wsL_chunks wsL_chunks_in ([.methodLink RL 54 yX5_mark, .instanceMethod yX5_mark, .selects RX5 yX5_mark yX5_mark, .initialized RX5] : List Cond) [(15, 4), (15, 5), (15, 6), (0, 2)] (by decide +kernel) (by decide +kernel)) ggL_law_X5_mark
set_option maxRecDepth 20000 in
theorem ggL_law_X6_mark : GoodIn wsL_law wsX6_mark := goodIn_g wsL_chunks wsL_chunks_in wsX6_mark [(16, 12), (3, 0), (3, 8), (3, 7), (14, 0), (14, 1), (14, 2), (0, 5), (14, 3), (12, 16), (4, 17), (4, 18), (4, 19), (6, 20), (6, 21), (6, 22), (6, 23), (7, 0), (2, 19), (16, 13), (16, 14), (16, 15), (16, 16), (3, 6), (34, 0), (34, 1), (34, 2), (34, 3), (34, 4), (34, 5), (34, 6), (34, 7), (34, 8), (34, 9), (34, 10), (34, 11), (34, 12), (34, 13), (34, 14), (34, 15), (34, 16), (34, 17), (34, 18), (34, 19), (34, 20), (34, 21), (34, 22), (34, 23), (34, 24), (34, 25), (34, 26), (34, 27), (34, 28), (34, 29), (34, 30)] rfl (by decide +kernel)
set_option maxRecDepth 20000 in
theorem gL_law_X6_mark : GoodIn wsL_law (wsV RL 57 RX6 yX6_mark wsX6_mark) := goodIn_app (goodIn_g wsL_chunks wsL_chunks_in ([.methodLink RL 57 yX6_mark, .instanceMethod yX6_mark, .selects RX6 yX6_mark yX6_mark, .initialized RX6] : List Cond) [(16, 9), (16, 10), (16, 11), (0, 5)] (by decide +kernel) (by decide +kernel)) ggL_law_X6_mark
set_option maxRecDepth 20000 in
theorem ggL_law_X5_speed : GoodIn wsL_law wsX5_speed := goodIn_g wsL_chunks wsL_chunks_in wsX5_speed [(16, 20), (12, 23), (13, 0), (13, 1), (0, 2), (13, 2), (0, 23), (13, 3), (9, 11), (9, 12), (9, 13), (0, 22), (9, 14), (9, 15), (13, 4), (13, 5), (13, 6), (13, 7), (13, 8), (13, 9), (13, 10), (13, 11), (13, 12), (13, 13), (13, 14), (13, 15), (13, 16), (13, 17), (13, 18), (13, 19), (2, 4), (3, 23), (4, 0), (4, 1), (15, 14), (15, 15), (15, 16), (9, 6), (15, 17), (10, 8), (10, 1), (15, 18), (11, 7), (11, 8), (11, 9), (15, 19), (15, 20), (15, 21), (15, 22), (15, 23), (16, 0), (12, 9), (12, 10), (8, 15), (8, 16), (16, 1), (16, 2), (16, 3), (16, 4), (16, 5), (16, 6), (16, 7), (16, 8), (33, 0), (33, 1), (33, 2), (33, 3), (33, 4), (33, 5), (33, 6), (33, 7), (33, 8), (33, 9), (33, 10), (33, 11), (37, 0), (37, 1), (37, 2), (38, 0), (38, 1), (38, 2), (38, 3), (38, 4), (38, 5), (38, 6), (38, 7), (38, 8), (38, 9), (38, 10), (38, 11), (38, 12), (38, 13)] rfl (by decide +kernel)
set_option maxRecDepth 20000 in
theorem gL_law_X5_speed : GoodIn wsL_law (wsV RL 58 RX5 yX5_speed wsX5_speed) := goodIn_app (goodIn_g wsL_chunks wsL_chunks_in ([.methodLink RL 58 yX5_speed, .instanceMethod yX5_speed, .selects RX5 yX5_speed yX5_speed, .initialized RX5] : List Cond) [(16, 17), (16, 18), (16, 19), (0, 2)] (by decide +kernel) (by decide +kernel)) ggL_law_X5_speed
set_option maxRecDepth 20000 in
theorem ggL_law_X6_speed : GoodIn wsL_law wsX6_speed := goodIn_g wsL_chunks wsL_chunks_in wsX6_speed [(17, 0), (14, 0), (14, 1), (14, 2), (0, 5), (14, 3), (12, 16), (4, 17), (4, 18), (4, 19), (17, 1), (17, 2), (17, 3), (16, 13), (16, 14), (16, 15), (16, 16), (3, 0), (3, 6), (34, 0), (34, 1), (34, 2), (34, 3), (34, 4), (34, 5), (34, 6), (34, 7), (34, 8), (34, 9), (34, 10), (34, 11), (34, 12), (34, 13), (34, 14), (34, 15), (34, 16), (34, 17), (34, 18), (34, 19), (34, 20), (34, 21), (34, 22), (34, 23), (34, 24), (34, 25), (34, 26), (34, 27), (34, 28), (34, 29), (34, 30)] rfl (by decide +kernel)
set_option maxRecDepth 20000 in
theorem gL_law_X6_speed : GoodIn wsL_law (wsV RL 62 RX6 yX6_speed wsX6_speed) := goodIn_app (goodIn_g wsL_chunks wsL_chunks_in ([.methodLink RL 62 yX6_speed, .instanceMethod yX6_speed, .selects RX6 yX6_speed yX6_speed, .initialized RX6] : List Cond) [(16, 21), (16, 22), (16, 23), (0, 5)] (by decide +kernel) (by decide +kernel)) ggL_law_X6_speed
set_option maxRecDepth 20000 in
theorem ggL_law_X5_order : GoodIn wsL_law wsX5_order := goodIn_g wsL_chunks wsL_chunks_in wsX5_order [(17, 7), (15, 8), (17, 8), (17, 9), (17, 10), (12, 23), (13, 0), (13, 1), (0, 2), (13, 2), (0, 23), (13, 3), (9, 11), (9, 12), (9, 13), (0, 22), (9, 14), (9, 15), (13, 4), (13, 5), (13, 6), (13, 7), (13, 8), (13, 9), (13, 10), (13, 11), (13, 12), (13, 13), (13, 14), (13, 15), (13, 16), (13, 17), (13, 18), (13, 19), (2, 4), (17, 11), (17, 12), (17, 13), (3, 23), (4, 0), (4, 1), (17, 14), (17, 15), (17, 16), (17, 17), (0, 10), (0, 11), (17, 18), (17, 19), (17, 20), (17, 21), (17, 22), (17, 23), (10, 12), (10, 13), (10, 14), (10, 15), (10, 16), (10, 17), (10, 18), (10, 19), (10, 20), (10, 21), (10, 22), (10, 23), (11, 0), (11, 1), (11, 2), (11, 3), (11, 4), (11, 5), (2, 3), (11, 6), (11, 7), (11, 8), (11, 9), (11, 10), (11, 11), (11, 12), (11, 13), (11, 14), (11, 15), (11, 16), (11, 17), (11, 18), (11, 19), (11, 20), (11, 21), (5, 10), (11, 22), (11, 23), (12, 0), (12, 1), (12, 2), (12, 3), (12, 4), (12, 5), (12, 6), (12, 7), (12, 8), (12, 9), (12, 10), (12, 11), (7, 22), (7, 23), (8, 0), (38, 0), (38, 1), (38, 2), (38, 3), (38, 4), (38, 5), (38, 6), (38, 7), (38, 8), (38, 9), (38, 10), (38, 11), (38, 12), (38, 13), (39, 0), (39, 1), (39, 2), (39, 3), (39, 4), (39, 5), (33, 0), (33, 1), (33, 2), (33, 3), (33, 4), (33, 5), (33, 6), (33, 7), (33, 8), (33, 9), (33, 10), (33, 11), (37, 0), (37, 1), (37, 2)] rfl (by decide +kernel)
set_option maxRecDepth 20000 in
theorem gL_law_X5_order : GoodIn wsL_law (wsV RL 63 RX5 yX5_order wsX5_order) := goodIn_app (goodIn_g wsL_chunks wsL_chunks_in ([.methodLink RL 63 yX5_order, .instanceMethod yX5_order, .selects RX5 yX5_order yX5_order, .initialized RX5] : List Cond) [(17, 4), (17, 5), (17, 6), (0, 2)] (by decide +kernel) (by decide +kernel)) ggL_law_X5_order
set_option maxRecDepth 20000 in
theorem ggL_law_X6_order : GoodIn wsL_law wsX6_order := goodIn_g wsL_chunks wsL_chunks_in wsX6_order [(18, 3), (3, 8), (3, 9), (14, 0), (14, 1), (14, 2), (0, 5), (14, 3), (12, 16), (4, 17), (4, 18), (4, 19), (17, 1), (17, 2), (17, 3), (34, 0), (34, 1), (34, 2), (34, 3), (34, 4), (34, 5), (34, 6), (34, 7), (34, 8), (34, 9), (34, 10), (34, 11), (34, 12), (34, 13), (34, 14), (34, 15), (34, 16), (34, 17), (34, 18), (34, 19), (34, 20), (34, 21), (34, 22), (34, 23), (34, 24), (34, 25), (34, 26), (34, 27), (34, 28), (34, 29), (34, 30)] rfl (by decide +kernel)
set_option maxRecDepth 20000 in
theorem gL_law_X6_order : GoodIn wsL_law (wsV RL 67 RX6 yX6_order wsX6_order) := goodIn_app (goodIn_g wsL_chunks wsL_chunks_in ([.methodLink RL 67 yX6_order, .instanceMethod yX6_order, .selects RX6 yX6_order yX6_order, .initialized RX6] : List Cond) [(18, 0), (18, 1), (18, 2), (0, 5)] (by decide +kernel) (by decide +kernel)) ggL_law_X6_order
set_option maxRecDepth 20000 in
theorem ggL_law_X5_home : GoodIn wsL_law wsX5_home := goodIn_g wsL_chunks wsL_chunks_in wsX5_home [(18, 7), (1, 3), (1, 4), (1, 5), (9, 7), (9, 8), (9, 9), (0, 2), (9, 10), (0, 15), (3, 23), (4, 0), (4, 1), (4, 2), (4, 3), (4, 4), (0, 14), (4, 5), (1, 14), (33, 0), (33, 1), (33, 2), (33, 3), (33, 4), (33, 5), (33, 6), (33, 7), (33, 8), (33, 9), (33, 10), (33, 11), (35, 0), (35, 1), (35, 2)] rfl (by decide +kernel)
set_option maxRecDepth 20000 in
theorem gL_law_X5_home : GoodIn wsL_law (wsV RL 68 RX5 yX5_home wsX5_home) := goodIn_app (goodIn_g wsL_chunks wsL_chunks_in ([.methodLink RL 68 yX5_home, .instanceMethod yX5_home, .selects RX5 yX5_home yX5_home, .initialized RX5] : List Cond) [(18, 4), (18, 5), (18, 6), (0, 2)] (by decide +kernel) (by decide +kernel)) ggL_law_X5_home
set_option maxRecDepth 20000 in
theorem ggL_law_X6_home : GoodIn wsL_law wsX6_home := goodIn_g wsL_chunks wsL_chunks_in wsX6_home [(18, 11), (2, 20), (12, 17), (18, 12), (15, 3), (4, 14), (4, 15), (0, 5), (4, 16), (4, 17), (4, 18), (4, 19), (34, 0), (34, 1), (34, 2), (34, 3), (34, 4), (34, 5), (34, 6), (34, 7), (34, 8), (34, 9), (34, 10), (34, 11), (34, 12), (34, 13), (34, 14), (34, 15), (34, 16), (34, 17), (34, 18), (34, 19), (34, 20), (34, 21), (34, 22), (34, 23), (34, 24), (34, 25), (34, 26), (34, 27), (34, 28), (34, 29), (34, 30)] rfl (by decide +kernel)
set_option maxRecDepth 20000 in
theorem gL_law_X6_home : GoodIn wsL_law (wsV RL 71 RX6 yX6_home wsX6_home) := goodIn_app (goodIn_g wsL_chunks wsL_chunks_in ([.methodLink RL 71 yX6_home, .instanceMethod yX6_home, .selects RX6 yX6_home yX6_home, .initialized RX6] : List Cond) [(18, 8), (18, 9), (18, 10), (0, 5)] (by decide +kernel) (by decide +kernel)) ggL_law_X6_home
set_option maxRecDepth 20000 in
theorem ggL_law_X5_run : GoodIn wsL_law wsX5_run := goodIn_g wsL_chunks wsL_chunks_in wsX5_run [(18, 16), (18, 17), (1, 3), (0, 23), (13, 3), (3, 23), (4, 0), (0, 2), (4, 1), (18, 18), (18, 19), (18, 20), (18, 21), (9, 11), (9, 12), (9, 13), (0, 22), (9, 14), (9, 15), (13, 4), (13, 5), (13, 6), (13, 7), (13, 8), (13, 9), (13, 10), (13, 11), (13, 12), (13, 13), (13, 14), (13, 15), (13, 16), (13, 17), (13, 18), (13, 19), (2, 4), (18, 22), (18, 23), (19, 0), (9, 6), (19, 1), (10, 3), (19, 2), (19, 3), (19, 4), (19, 5), (0, 15), (14, 9), (14, 11), (14, 10), (19, 6), (19, 7), (19, 8), (19, 9), (19, 10), (19, 11), (19, 12), (8, 10), (8, 11), (8, 12), (0, 14), (8, 13), (1, 15), (1, 18), (19, 13), (19, 14), (19, 15), (19, 16), (9, 21), (19, 17), (10, 9), (19, 18), (10, 0), (19, 19), (19, 20), (8, 15), (8, 16), (19, 21), (19, 22), (19, 23), (17, 10), (20, 0), (17, 18), (17, 19), (17, 20), (17, 21), (17, 22), (15, 14), (15, 15), (15, 16), (15, 17), (10, 8), (10, 1), (15, 18), (11, 7), (11, 8), (11, 9), (15, 19), (15, 20), (15, 21), (15, 22), (15, 23), (16, 0), (12, 9), (12, 10), (16, 1), (16, 2), (16, 3), (16, 4), (16, 5), (16, 6), (16, 7), (16, 8), (20, 1), (20, 2), (20, 3), (20, 4), (20, 5), (20, 6), (20, 7), (20, 8), (20, 9), (20, 10), (20, 11), (20, 12), (4, 3), (4, 4), (4, 5), (1, 14), (20, 13), (20, 14), (20, 15), (20, 16), (15, 9), (1, 4), (14, 12), (14, 13), (20, 17), (20, 18), (20, 19), (20, 20), (1, 5), (33, 0), (33, 1), (33, 2), (33, 3), (33, 4), (33, 5), (33, 6), (33, 7), (33, 8), (33, 9), (33, 10), (33, 11), (37, 0), (37, 1), (37, 2), (38, 0), (38, 1), (38, 2), (38, 3), (38, 4), (38, 5), (38, 6), (38, 7), (38, 8), (38, 9), (38, 10), (38, 11), (38, 12), (38, 13), (35, 0), (35, 1), (35, 2), (39, 0), (39, 1), (39, 2), (39, 3), (39, 4), (39, 5)] rfl (by decide +kernel)
set_option maxRecDepth 20000 in
theorem gL_law_X5_run : GoodIn wsL_law (wsV RL 72 RX5 yX5_run wsX5_run) := goodIn_app (goodIn_g wsL_chunks wsL_chunks_in ([.methodLink RL 72 yX5_run, .instanceMethod yX5_run, .selects RX5 yX5_run yX5_run, .initialized RX5] : List Cond) [(18, 13), (18, 14), (18, 15), (0, 2)] (by decide +kernel) (by decide +kernel)) ggL_law_X5_run
set_option maxRecDepth 20000 in
theorem ggL_law_X6_run : GoodIn wsL_law wsX6_run := goodIn_g wsL_chunks wsL_chunks_in wsX6_run [(21, 0), (12, 17), (21, 1), (12, 16), (3, 4), (4, 17), (4, 18), (0, 5), (4, 19), (21, 2), (21, 3), (21, 4), (21, 5), (21, 6), (21, 7), (21, 8), (21, 9), (3, 1), (3, 2), (3, 3), (3, 7), (18, 12), (21, 10), (21, 11), (21, 12), (21, 13), (3, 8), (3, 9), (21, 14), (21, 15), (21, 16), (21, 17), (2, 21), (2, 22), (16, 13), (16, 14), (16, 15), (16, 16), (3, 0), (3, 6), (21, 18), (21, 19), (21, 20), (21, 21), (21, 22), (21, 23), (22, 0), (2, 20), (34, 0), (34, 1), (34, 2), (34, 3), (34, 4), (34, 5), (34, 6), (34, 7), (34, 8), (34, 9), (34, 10), (34, 11), (34, 12), (34, 13), (34, 14), (34, 15), (34, 16), (34, 17), (34, 18), (34, 19), (34, 20), (34, 21), (34, 22), (34, 23), (34, 24), (34, 25), (34, 26), (34, 27), (34, 28), (34, 29), (34, 30)] rfl (by decide +kernel)
set_option maxRecDepth 20000 in
theorem gL_law_X6_run : GoodIn wsL_law (wsV RL 75 RX6 yX6_run wsX6_run) := goodIn_app (goodIn_g wsL_chunks wsL_chunks_in ([.methodLink RL 75 yX6_run, .instanceMethod yX6_run, .selects RX6 yX6_run yX6_run, .initialized RX6] : List Cond) [(20, 21), (20, 22), (20, 23), (0, 5)] (by decide +kernel) (by decide +kernel)) ggL_law_X6_run
set_option maxRecDepth 20000 in
theorem ggL_law_X5_first : GoodIn wsL_law wsX5_first := goodIn_g wsL_chunks wsL_chunks_in wsX5_first [(22, 4), (22, 5), (22, 6), (22, 7), (22, 8), (0, 2), (22, 9), (0, 23), (13, 3), (9, 11), (9, 12), (9, 13), (0, 22), (9, 14), (9, 15), (13, 4), (13, 5), (13, 6), (13, 7), (13, 8), (13, 9), (13, 10), (13, 11), (13, 12), (13, 13), (13, 14), (13, 15), (13, 16), (13, 17), (13, 18), (13, 19), (2, 4), (18, 22), (18, 23), (19, 0), (9, 6), (19, 1), (10, 3), (22, 10), (22, 11), (22, 12), (22, 13), (10, 4), (10, 7), (38, 0), (38, 1), (38, 2), (38, 3), (38, 4), (38, 5), (38, 6), (38, 7), (38, 8), (38, 9), (38, 10), (38, 11), (38, 12), (38, 13), (33, 0), (33, 1), (33, 2), (33, 3), (33, 4), (33, 5), (33, 6), (33, 7), (33, 8), (33, 9), (33, 10), (33, 11), (37, 0), (37, 1), (37, 2)] rfl (by decide +kernel)
set_option maxRecDepth 20000 in
theorem gL_law_X5_first : GoodIn wsL_law (wsV RL 76 RX5 yX5_first wsX5_first) := goodIn_app (goodIn_g wsL_chunks wsL_chunks_in ([.methodLink RL 76 yX5_first, .instanceMethod yX5_first, .selects RX5 yX5_first yX5_first, .initialized RX5] : List Cond) [(22, 1), (22, 2), (22, 3), (0, 2)] (by decide +kernel) (by decide +kernel)) ggL_law_X5_first
set_option maxRecDepth 20000 in
theorem ggL_law_X6_first : GoodIn wsL_law wsX6_first := goodIn_g wsL_chunks wsL_chunks_in wsX6_first [(22, 17), (22, 18), (22, 19), (22, 20), (0, 5), (22, 21), (12, 16), (3, 4), (14, 23), (15, 0), (15, 1), (15, 2), (15, 3), (34, 0), (34, 1), (34, 2), (34, 3), (34, 4), (34, 5), (34, 6), (34, 7), (34, 8), (34, 9), (34, 10), (34, 11), (34, 12), (34, 13), (34, 14), (34, 15), (34, 16), (34, 17), (34, 18), (34, 19), (34, 20), (34, 21), (34, 22), (34, 23), (34, 24), (34, 25), (34, 26), (34, 27), (34, 28), (34, 29), (34, 30)] rfl (by decide +kernel)
set_option maxRecDepth 20000 in
theorem gL_law_X6_first : GoodIn wsL_law (wsV RL 80 RX6 yX6_first wsX6_first) := goodIn_app (goodIn_g wsL_chunks wsL_chunks_in ([.methodLink RL 80 yX6_first, .instanceMethod yX6_first, .selects RX6 yX6_first yX6_first, .initialized RX6] : List Cond) [(22, 14), (22, 15), (22, 16), (0, 5)] (by decide +kernel) (by decide +kernel)) ggL_law_X6_first
set_option maxRecDepth 20000 in
theorem ggL_law_X5_least : GoodIn wsL_law wsX5_least := goodIn_g wsL_chunks wsL_chunks_in wsX5_least [(23, 1), (23, 2), (0, 19), (0, 15), (12, 23), (13, 0), (13, 1), (0, 2), (13, 2), (0, 23), (13, 3), (9, 11), (9, 12), (9, 13), (0, 22), (9, 14), (9, 15), (13, 4), (13, 5), (13, 6), (13, 7), (13, 8), (13, 9), (13, 10), (13, 11), (13, 12), (13, 13), (13, 14), (13, 15), (13, 16), (13, 17), (13, 18), (13, 19), (2, 4), (9, 7), (9, 8), (9, 9), (9, 10), (3, 23), (4, 0), (4, 1), (4, 2), (4, 3), (4, 4), (0, 14), (4, 5), (1, 14), (23, 3), (23, 4), (23, 5), (0, 18), (23, 6), (1, 22), (1, 23), (23, 7), (23, 8), (23, 9), (23, 10), (23, 11), (23, 12), (23, 13), (23, 14), (23, 15), (20, 9), (20, 10), (20, 11), (20, 12), (23, 16), (23, 17), (23, 18), (23, 19), (11, 7), (11, 8), (11, 9), (20, 2), (20, 3), (19, 7), (19, 8), (19, 9), (19, 10), (19, 11), (19, 12), (23, 20), (8, 11), (8, 12), (8, 13), (1, 15), (1, 18), (23, 21), (15, 15), (15, 16), (9, 6), (15, 17), (10, 8), (10, 1), (15, 18), (15, 19), (15, 20), (15, 21), (15, 22), (15, 23), (16, 0), (12, 9), (12, 10), (8, 15), (8, 16), (16, 1), (16, 2), (16, 3), (16, 4), (16, 5), (16, 6), (16, 7), (16, 8), (23, 22), (23, 23), (24, 0), (24, 1), (24, 2), (24, 3), (24, 4), (33, 0), (33, 1), (33, 2), (33, 3), (33, 4), (33, 5), (33, 6), (33, 7), (33, 8), (33, 9), (33, 10), (33, 11), (37, 0), (37, 1), (37, 2), (35, 0), (35, 1), (35, 2), (36, 0), (36, 1), (38, 0), (38, 1), (38, 2), (38, 3), (38, 4), (38, 5), (38, 6), (38, 7), (38, 8), (38, 9), (38, 10), (38, 11), (38, 12), (38, 13)] rfl (by decide +kernel)
set_option maxRecDepth 20000 in
theorem gL_law_X5_least : GoodIn wsL_law (wsV RL 81 RX5 yX5_least wsX5_least) := goodIn_app (goodIn_g wsL_chunks wsL_chunks_in ([.methodLink RL 81 yX5_least, .instanceMethod yX5_least, .selects RX5 yX5_least yX5_least, .initialized RX5] : List Cond) [(22, 22), (22, 23), (23, 0), (0, 2)] (by decide +kernel) (by decide +kernel)) ggL_law_X5_least
set_option maxRecDepth 20000 in
theorem ggL_law_X6_least : GoodIn wsL_law wsX6_least := goodIn_g wsL_chunks wsL_chunks_in wsX6_least [(24, 8), (2, 20), (24, 9), (3, 12), (3, 13), (14, 0), (14, 1), (14, 2), (0, 5), (14, 3), (12, 16), (4, 17), (4, 18), (4, 19), (4, 14), (4, 15), (4, 16), (21, 21), (21, 22), (21, 23), (22, 0), (24, 10), (24, 11), (24, 12), (24, 13), (21, 18), (21, 19), (21, 20), (21, 14), (21, 15), (21, 16), (21, 17), (2, 21), (2, 22), (16, 13), (16, 14), (16, 15), (16, 16), (3, 0), (3, 6), (34, 0), (34, 1), (34, 2), (34, 3), (34, 4), (34, 5), (34, 6), (34, 7), (34, 8), (34, 9), (34, 10), (34, 11), (34, 12), (34, 13), (34, 14), (34, 15), (34, 16), (34, 17), (34, 18), (34, 19), (34, 20), (34, 21), (34, 22), (34, 23), (34, 24), (34, 25), (34, 26), (34, 27), (34, 28), (34, 29), (34, 30)] rfl (by decide +kernel)
set_option maxRecDepth 20000 in
theorem gL_law_X6_least : GoodIn wsL_law (wsV RL 84 RX6 yX6_least wsX6_least) := goodIn_app (goodIn_g wsL_chunks wsL_chunks_in ([.methodLink RL 84 yX6_least, .instanceMethod yX6_least, .selects RX6 yX6_least yX6_least, .initialized RX6] : List Cond) [(24, 5), (24, 6), (24, 7), (0, 5)] (by decide +kernel) (by decide +kernel)) ggL_law_X6_least
set_option maxRecDepth 20000 in
theorem ggL_law_X5_sight : GoodIn wsL_law wsX5_sight := goodIn_g wsL_chunks wsL_chunks_in wsX5_sight [(24, 17), (18, 17), (1, 6), (24, 18), (24, 19), (24, 20), (24, 21), (12, 23), (13, 0), (13, 1), (0, 2), (13, 2), (0, 23), (13, 3), (9, 11), (9, 12), (9, 13), (0, 22), (9, 14), (9, 15), (13, 4), (13, 5), (13, 6), (13, 7), (13, 8), (13, 9), (13, 10), (13, 11), (13, 12), (13, 13), (13, 14), (13, 15), (13, 16), (13, 17), (13, 18), (13, 19), (2, 4), (3, 23), (4, 0), (4, 1), (24, 22), (24, 23), (25, 0), (9, 6), (25, 1), (25, 2), (25, 3), (25, 4), (25, 5), (9, 22), (25, 6), (25, 7), (19, 19), (19, 20), (25, 8), (25, 9), (25, 10), (25, 11), (0, 10), (0, 11), (25, 12), (25, 13), (10, 12), (10, 13), (10, 14), (10, 15), (10, 16), (10, 17), (10, 18), (10, 19), (10, 20), (10, 21), (10, 22), (10, 23), (11, 0), (11, 1), (11, 2), (11, 3), (11, 4), (11, 5), (2, 3), (11, 6), (11, 7), (11, 8), (11, 9), (11, 10), (11, 11), (11, 12), (11, 13), (11, 14), (11, 15), (11, 16), (11, 17), (11, 18), (11, 19), (11, 20), (11, 21), (5, 10), (11, 22), (11, 23), (12, 0), (12, 1), (12, 2), (12, 3), (12, 4), (12, 5), (12, 6), (12, 7), (12, 8), (12, 9), (12, 10), (12, 11), (7, 22), (7, 23), (8, 0), (33, 0), (33, 1), (33, 2), (33, 3), (33, 4), (33, 5), (33, 6), (33, 7), (33, 8), (33, 9), (33, 10), (33, 11), (38, 0), (38, 1), (38, 2), (38, 3), (38, 4), (38, 5), (38, 6), (38, 7), (38, 8), (38, 9), (38, 10), (38, 11), (38, 12), (38, 13), (40, 0), (40, 1), (37, 0), (37, 1), (37, 2)] rfl (by decide +kernel)
set_option maxRecDepth 20000 in
theorem gL_law_X5_sight : GoodIn wsL_law (wsV RL 85 RX5 yX5_sight wsX5_sight) := goodIn_app (goodIn_g wsL_chunks wsL_chunks_in ([.methodLink RL 85 yX5_sight, .instanceMethod yX5_sight, .selects RX5 yX5_sight yX5_sight, .initialized RX5] : List Cond) [(24, 14), (24, 15), (24, 16), (0, 2)] (by decide +kernel) (by decide +kernel)) ggL_law_X5_sight
set_option maxRecDepth 20000 in
theorem ggL_law_X6_sight : GoodIn wsL_law wsX6_sight := goodIn_g wsL_chunks wsL_chunks_in wsX6_sight [(25, 17), (21, 1), (25, 18), (3, 14), (3, 16), (3, 15), (14, 0), (14, 1), (14, 2), (0, 5), (14, 3), (12, 16), (4, 17), (4, 18), (4, 19), (4, 14), (4, 15), (4, 16), (34, 0), (34, 1), (34, 2), (34, 3), (34, 4), (34, 5), (34, 6), (34, 7), (34, 8), (34, 9), (34, 10), (34, 11), (34, 12), (34, 13), (34, 14), (34, 15), (34, 16), (34, 17), (34, 18), (34, 19), (34, 20), (34, 21), (34, 22), (34, 23), (34, 24), (34, 25), (34, 26), (34, 27), (34, 28), (34, 29), (34, 30)] rfl (by decide +kernel)
set_option maxRecDepth 20000 in
theorem gL_law_X6_sight : GoodIn wsL_law (wsV RL 88 RX6 yX6_sight wsX6_sight) := goodIn_app (goodIn_g wsL_chunks wsL_chunks_in ([.methodLink RL 88 yX6_sight, .instanceMethod yX6_sight, .selects RX6 yX6_sight yX6_sight, .initialized RX6] : List Cond) [(25, 14), (25, 15), (25, 16), (0, 5)] (by decide +kernel) (by decide +kernel)) ggL_law_X6_sight
set_option maxRecDepth 20000 in
theorem ggL_law_X5_distance : GoodIn wsL_law wsX5_distance := goodIn_g wsL_chunks wsL_chunks_in wsX5_distance [(25, 22), (18, 17), (12, 23), (13, 0), (13, 1), (0, 2), (13, 2), (0, 23), (13, 3), (9, 11), (9, 12), (9, 13), (0, 22), (9, 14), (9, 15), (13, 4), (13, 5), (13, 6), (13, 7), (13, 8), (13, 9), (13, 10), (13, 11), (13, 12), (13, 13), (13, 14), (13, 15), (13, 16), (13, 17), (13, 18), (13, 19), (2, 4), (3, 23), (4, 0), (4, 1), (25, 23), (26, 0), (26, 1), (26, 2), (26, 3), (26, 4), (16, 0), (12, 9), (11, 8), (12, 10), (26, 5), (26, 6), (26, 7), (9, 6), (26, 8), (9, 22), (25, 6), (25, 7), (19, 19), (19, 20), (26, 9), (25, 3), (25, 4), (25, 5), (26, 10), (26, 11), (26, 12), (26, 13), (1, 4), (15, 21), (15, 22), (15, 23), (26, 14), (11, 7), (11, 9), (26, 15), (26, 16), (26, 17), (26, 18), (33, 0), (33, 1), (33, 2), (33, 3), (33, 4), (33, 5), (33, 6), (33, 7), (33, 8), (33, 9), (33, 10), (33, 11), (37, 0), (37, 1), (37, 2), (40, 0), (40, 1), (38, 0), (38, 1), (38, 2), (38, 3), (38, 4), (38, 5), (38, 6), (38, 7), (38, 8), (38, 9), (38, 10), (38, 11), (38, 12), (38, 13)] rfl (by decide +kernel)
set_option maxRecDepth 20000 in
theorem gL_law_X5_distance : GoodIn wsL_law (wsV RL 89 RX5 yX5_distance wsX5_distance) := goodIn_app (goodIn_g wsL_chunks wsL_chunks_in ([.methodLink RL 89 yX5_distance, .instanceMethod yX5_distance, .selects RX5 yX5_distance yX5_distance, .initialized RX5] : List Cond) [(25, 19), (25, 20), (25, 21), (0, 2)] (by decide +kernel) (by decide +kernel)) ggL_law_X5_distance
set_option maxRecDepth 20000 in
theorem ggL_law_X6_distance : GoodIn wsL_law wsX6_distance := goodIn_g wsL_chunks wsL_chunks_in wsX6_distance [(26, 22), (21, 1), (14, 0), (14, 1), (14, 2), (0, 5), (14, 3), (12, 16), (4, 17), (4, 18), (4, 19), (26, 23), (27, 0), (27, 1), (27, 2), (25, 18), (3, 14), (3, 16), (3, 15), (27, 3), (27, 4), (27, 5), (27, 6), (18, 12), (27, 7), (27, 8), (27, 9), (34, 0), (34, 1), (34, 2), (34, 3), (34, 4), (34, 5), (34, 6), (34, 7), (34, 8), (34, 9), (34, 10), (34, 11), (34, 12), (34, 13), (34, 14), (34, 15), (34, 16), (34, 17), (34, 18), (34, 19), (34, 20), (34, 21), (34, 22), (34, 23), (34, 24), (34, 25), (34, 26), (34, 27), (34, 28), (34, 29), (34, 30)] rfl (by decide +kernel)
set_option maxRecDepth 20000 in
theorem gL_law_X6_distance : GoodIn wsL_law (wsV RL 93 RX6 yX6_distance wsX6_distance) := goodIn_app (goodIn_g wsL_chunks wsL_chunks_in ([.methodLink RL 93 yX6_distance, .instanceMethod yX6_distance, .selects RX6 yX6_distance yX6_distance, .initialized RX6] : List Cond) [(26, 19), (26, 20), (26, 21), (0, 5)] (by decide +kernel) (by decide +kernel)) ggL_law_X6_distance
set_option maxRecDepth 20000 in
theorem ggL_law_X5_ahead : GoodIn wsL_law wsX5_ahead := goodIn_g wsL_chunks wsL_chunks_in wsX5_ahead [(27, 13), (18, 17), (12, 23), (13, 0), (13, 1), (0, 2), (13, 2), (0, 23), (13, 3), (9, 11), (9, 12), (9, 13), (0, 22), (9, 14), (9, 15), (13, 4), (13, 5), (13, 6), (13, 7), (13, 8), (13, 9), (13, 10), (13, 11), (13, 12), (13, 13), (13, 14), (13, 15), (13, 16), (13, 17), (13, 18), (13, 19), (2, 4), (3, 23), (4, 0), (4, 1), (27, 14), (27, 15), (27, 16), (9, 6), (27, 17), (27, 18), (26, 6), (26, 7), (26, 8), (9, 22), (25, 6), (25, 7), (19, 19), (19, 20), (25, 2), (25, 3), (25, 4), (25, 5), (25, 23), (26, 0), (26, 1), (26, 2), (26, 3), (26, 4), (16, 0), (12, 9), (11, 8), (12, 10), (26, 5), (26, 9), (26, 10), (26, 11), (26, 12), (26, 13), (1, 4), (15, 21), (15, 22), (15, 23), (26, 14), (11, 7), (11, 9), (26, 15), (26, 16), (26, 17), (26, 18), (33, 0), (33, 1), (33, 2), (33, 3), (33, 4), (33, 5), (33, 6), (33, 7), (33, 8), (33, 9), (33, 10), (33, 11), (37, 0), (37, 1), (37, 2), (38, 0), (38, 1), (38, 2), (38, 3), (38, 4), (38, 5), (38, 6), (38, 7), (38, 8), (38, 9), (38, 10), (38, 11), (38, 12), (38, 13), (40, 0), (40, 1)] rfl (by decide +kernel)
set_option maxRecDepth 20000 in
theorem gL_law_X5_ahead : GoodIn wsL_law (wsV RL 94 RX5 yX5_ahead wsX5_ahead) := goodIn_app (goodIn_g wsL_chunks wsL_chunks_in ([.methodLink RL 94 yX5_ahead, .instanceMethod yX5_ahead, .selects RX5 yX5_ahead yX5_ahead, .initialized RX5] : List Cond) [(27, 10), (27, 11), (27, 12), (0, 2)] (by decide +kernel) (by decide +kernel)) ggL_law_X5_ahead
set_option maxRecDepth 20000 in
theorem ggL_law_X6_ahead : GoodIn wsL_law wsX6_ahead := goodIn_g wsL_chunks wsL_chunks_in wsX6_ahead [(27, 22), (21, 1), (14, 0), (14, 1), (14, 2), (0, 5), (14, 3), (12, 16), (4, 17), (4, 18), (4, 19), (26, 23), (27, 0), (27, 1), (27, 2), (25, 18), (3, 14), (3, 16), (3, 15), (27, 3), (27, 4), (27, 5), (27, 6), (18, 12), (27, 7), (27, 8), (27, 9), (34, 0), (34, 1), (34, 2), (34, 3), (34, 4), (34, 5), (34, 6), (34, 7), (34, 8), (34, 9), (34, 10), (34, 11), (34, 12), (34, 13), (34, 14), (34, 15), (34, 16), (34, 17), (34, 18), (34, 19), (34, 20), (34, 21), (34, 22), (34, 23), (34, 24), (34, 25), (34, 26), (34, 27), (34, 28), (34, 29), (34, 30)] rfl (by decide +kernel)
set_option maxRecDepth 20000 in
theorem gL_law_X6_ahead : GoodIn wsL_law (wsV RL 97 RX6 yX6_ahead wsX6_ahead) := goodIn_app (goodIn_g wsL_chunks wsL_chunks_in ([.methodLink RL 97 yX6_ahead, .instanceMethod yX6_ahead, .selects RX6 yX6_ahead yX6_ahead, .initialized RX6] : List Cond) [(27, 19), (27, 20), (27, 21), (0, 5)] (by decide +kernel) (by decide +kernel)) ggL_law_X6_ahead
set_option maxRecDepth 20000 in
theorem ggL_law_X5_charter : GoodIn wsL_law wsX5_charter := goodIn_g wsL_chunks wsL_chunks_in wsX5_charter [(28, 2), (18, 17), (28, 3), (28, 4), (12, 23), (13, 0), (13, 1), (0, 2), (13, 2), (0, 23), (13, 3), (9, 11), (9, 12), (9, 13), (0, 22), (9, 14), (9, 15), (13, 4), (13, 5), (13, 6), (13, 7), (13, 8), (13, 9), (13, 10), (13, 11), (13, 12), (13, 13), (13, 14), (13, 15), (13, 16), (13, 17), (13, 18), (13, 19), (2, 4), (3, 23), (4, 0), (4, 1), (38, 0), (38, 1), (38, 2), (38, 3), (38, 4), (38, 5), (38, 6), (38, 7), (38, 8), (38, 9), (38, 10), (38, 11), (38, 12), (38, 13), (33, 0), (33, 1), (33, 2), (33, 3), (33, 4), (33, 5), (33, 6), (33, 7), (33, 8), (33, 9), (33, 10), (33, 11), (37, 0), (37, 1), (37, 2)] rfl (by decide +kernel)
set_option maxRecDepth 20000 in
theorem gL_law_X5_charter : GoodIn wsL_law (wsV RL 98 RX5 yX5_charter wsX5_charter) := goodIn_app (goodIn_g wsL_chunks wsL_chunks_in ([.methodLink RL 98 yX5_charter, .instanceMethod yX5_charter, .selects RX5 yX5_charter yX5_charter, .initialized RX5] : List Cond) [(27, 23), (28, 0), (28, 1), (0, 2)] (by decide +kernel) (by decide +kernel)) ggL_law_X5_charter
set_option maxRecDepth 20000 in
theorem ggL_law_X6_charter : GoodIn wsL_law wsX6_charter := goodIn_g wsL_chunks wsL_chunks_in wsX6_charter [(28, 8), (21, 1), (3, 10), (3, 11), (14, 0), (14, 1), (14, 2), (0, 5), (14, 3), (12, 16), (4, 17), (4, 18), (4, 19), (34, 0), (34, 1), (34, 2), (34, 3), (34, 4), (34, 5), (34, 6), (34, 7), (34, 8), (34, 9), (34, 10), (34, 11), (34, 12), (34, 13), (34, 14), (34, 15), (34, 16), (34, 17), (34, 18), (34, 19), (34, 20), (34, 21), (34, 22), (34, 23), (34, 24), (34, 25), (34, 26), (34, 27), (34, 28), (34, 29), (34, 30)] rfl (by decide +kernel)
set_option maxRecDepth 20000 in
theorem gL_law_X6_charter : GoodIn wsL_law (wsV RL 101 RX6 yX6_charter wsX6_charter) := goodIn_app (goodIn_g wsL_chunks wsL_chunks_in ([.methodLink RL 101 yX6_charter, .instanceMethod yX6_charter, .selects RX6 yX6_charter yX6_charter, .initialized RX6] : List Cond) [(28, 5), (28, 6), (28, 7), (0, 5)] (by decide +kernel) (by decide +kernel)) ggL_law_X6_charter
set_option maxRecDepth 20000 in
theorem ggL_law_X5_freight : GoodIn wsL_law wsX5_freight := goodIn_g wsL_chunks wsL_chunks_in wsX5_freight [(28, 12), (28, 4), (14, 14), (28, 3), (12, 23), (13, 0), (13, 1), (0, 2), (13, 2), (0, 23), (13, 3), (9, 11), (9, 12), (9, 13), (0, 22), (9, 14), (9, 15), (13, 4), (13, 5), (13, 6), (13, 7), (13, 8), (13, 9), (13, 10), (13, 11), (13, 12), (13, 13), (13, 14), (13, 15), (13, 16), (13, 17), (13, 18), (13, 19), (2, 4), (18, 22), (18, 23), (19, 0), (9, 6), (19, 1), (10, 3), (22, 6), (22, 7), (22, 8), (22, 9), (22, 10), (22, 11), (22, 12), (22, 13), (10, 4), (10, 7), (38, 0), (38, 1), (38, 2), (38, 3), (38, 4), (38, 5), (38, 6), (38, 7), (38, 8), (38, 9), (38, 10), (38, 11), (38, 12), (38, 13), (33, 0), (33, 1), (33, 2), (33, 3), (33, 4), (33, 5), (33, 6), (33, 7), (33, 8), (33, 9), (33, 10), (33, 11), (37, 0), (37, 1), (37, 2)] rfl (by decide +kernel)
set_option maxRecDepth 20000 in
theorem gL_law_X5_freight : GoodIn wsL_law (wsV RL 102 RX5 yX5_freight wsX5_freight) := goodIn_app (goodIn_g wsL_chunks wsL_chunks_in ([.methodLink RL 102 yX5_freight, .instanceMethod yX5_freight, .selects RX5 yX5_freight yX5_freight, .initialized RX5] : List Cond) [(28, 9), (28, 10), (28, 11), (0, 2)] (by decide +kernel) (by decide +kernel)) ggL_law_X5_freight
set_option maxRecDepth 20000 in
theorem ggL_law_X6_freight : GoodIn wsL_law wsX6_freight := goodIn_g wsL_chunks wsL_chunks_in wsX6_freight [(28, 16), (3, 4), (3, 5), (3, 10), (3, 11), (14, 0), (14, 1), (14, 2), (0, 5), (14, 3), (12, 16), (4, 17), (4, 18), (4, 19), (22, 18), (22, 19), (22, 20), (22, 21), (14, 23), (15, 0), (15, 1), (15, 2), (15, 3), (34, 0), (34, 1), (34, 2), (34, 3), (34, 4), (34, 5), (34, 6), (34, 7), (34, 8), (34, 9), (34, 10), (34, 11), (34, 12), (34, 13), (34, 14), (34, 15), (34, 16), (34, 17), (34, 18), (34, 19), (34, 20), (34, 21), (34, 22), (34, 23), (34, 24), (34, 25), (34, 26), (34, 27), (34, 28), (34, 29), (34, 30)] rfl (by decide +kernel)
set_option maxRecDepth 20000 in
theorem gL_law_X6_freight : GoodIn wsL_law (wsV RL 105 RX6 yX6_freight wsX6_freight) := goodIn_app (goodIn_g wsL_chunks wsL_chunks_in ([.methodLink RL 105 yX6_freight, .instanceMethod yX6_freight, .selects RX6 yX6_freight yX6_freight, .initialized RX6] : List Cond) [(28, 13), (28, 14), (28, 15), (0, 5)] (by decide +kernel) (by decide +kernel)) ggL_law_X6_freight
set_option maxRecDepth 20000 in
theorem ggL_law_X5_market : GoodIn wsL_law wsX5_market := goodIn_g wsL_chunks wsL_chunks_in wsX5_market [(28, 20), (1, 7), (1, 8), (3, 23), (4, 0), (0, 2), (4, 1), (33, 0), (33, 1), (33, 2), (33, 3), (33, 4), (33, 5), (33, 6), (33, 7), (33, 8), (33, 9), (33, 10), (33, 11)] rfl (by decide +kernel)
set_option maxRecDepth 20000 in
theorem gL_law_X5_market : GoodIn wsL_law (wsV RL 106 RX5 yX5_market wsX5_market) := goodIn_app (goodIn_g wsL_chunks wsL_chunks_in ([.methodLink RL 106 yX5_market, .instanceMethod yX5_market, .selects RX5 yX5_market yX5_market, .initialized RX5] : List Cond) [(28, 17), (28, 18), (28, 19), (0, 2)] (by decide +kernel) (by decide +kernel)) ggL_law_X5_market
set_option maxRecDepth 20000 in
theorem ggL_law_X6_market : GoodIn wsL_law wsX6_market := goodIn_g wsL_chunks wsL_chunks_in wsX6_market [(29, 0), (3, 17), (3, 18), (4, 17), (4, 18), (0, 5), (4, 19), (34, 0), (34, 1), (34, 2), (34, 3), (34, 4), (34, 5), (34, 6), (34, 7), (34, 8), (34, 9), (34, 10), (34, 11), (34, 12), (34, 13), (34, 14), (34, 15), (34, 16), (34, 17), (34, 18), (34, 19), (34, 20), (34, 21), (34, 22), (34, 23), (34, 24), (34, 25), (34, 26), (34, 27), (34, 28), (34, 29), (34, 30)] rfl (by decide +kernel)
set_option maxRecDepth 20000 in
theorem gL_law_X6_market : GoodIn wsL_law (wsV RL 109 RX6 yX6_market wsX6_market) := goodIn_app (goodIn_g wsL_chunks wsL_chunks_in ([.methodLink RL 109 yX6_market, .instanceMethod yX6_market, .selects RX6 yX6_market yX6_market, .initialized RX6] : List Cond) [(28, 21), (28, 22), (28, 23), (0, 5)] (by decide +kernel) (by decide +kernel)) ggL_law_X6_market
set_option maxRecDepth 20000 in
theorem ggL_law_X5_sale : GoodIn wsL_law wsX5_sale := goodIn_g wsL_chunks wsL_chunks_in wsX5_sale [(29, 4), (1, 9), (12, 23), (13, 0), (13, 1), (0, 2), (13, 2), (0, 23), (13, 3), (9, 11), (9, 12), (9, 13), (0, 22), (9, 14), (9, 15), (13, 4), (13, 5), (13, 6), (13, 7), (13, 8), (13, 9), (13, 10), (13, 11), (13, 12), (13, 13), (13, 14), (13, 15), (13, 16), (13, 17), (13, 18), (13, 19), (2, 4), (18, 22), (18, 23), (19, 0), (9, 6), (19, 1), (10, 3), (29, 5), (29, 6), (29, 7), (29, 8), (14, 14), (29, 9), (29, 10), (29, 11), (29, 12), (1, 7), (1, 8), (26, 14), (11, 7), (11, 8), (11, 9), (29, 13), (29, 14), (29, 15), (29, 16), (10, 4), (10, 7), (33, 0), (33, 1), (33, 2), (33, 3), (33, 4), (33, 5), (33, 6), (33, 7), (33, 8), (33, 9), (33, 10), (33, 11), (37, 0), (37, 1), (37, 2), (38, 0), (38, 1), (38, 2), (38, 3), (38, 4), (38, 5), (38, 6), (38, 7), (38, 8), (38, 9), (38, 10), (38, 11), (38, 12), (38, 13)] rfl (by decide +kernel)
set_option maxRecDepth 20000 in
theorem gL_law_X5_sale : GoodIn wsL_law (wsV RL 110 RX5 yX5_sale wsX5_sale) := goodIn_app (goodIn_g wsL_chunks wsL_chunks_in ([.methodLink RL 110 yX5_sale, .instanceMethod yX5_sale, .selects RX5 yX5_sale yX5_sale, .initialized RX5] : List Cond) [(29, 1), (29, 2), (29, 3), (0, 2)] (by decide +kernel) (by decide +kernel)) ggL_law_X5_sale
set_option maxRecDepth 20000 in
theorem ggL_law_X6_sale : GoodIn wsL_law wsX6_sale := goodIn_g wsL_chunks wsL_chunks_in wsX6_sale [(29, 20), (3, 4), (3, 5), (29, 21), (14, 0), (14, 1), (14, 2), (0, 5), (14, 3), (12, 16), (4, 17), (4, 18), (4, 19), (29, 22), (29, 23), (30, 0), (30, 1), (3, 17), (3, 18), (14, 23), (15, 0), (15, 1), (15, 2), (15, 3), (34, 0), (34, 1), (34, 2), (34, 3), (34, 4), (34, 5), (34, 6), (34, 7), (34, 8), (34, 9), (34, 10), (34, 11), (34, 12), (34, 13), (34, 14), (34, 15), (34, 16), (34, 17), (34, 18), (34, 19), (34, 20), (34, 21), (34, 22), (34, 23), (34, 24), (34, 25), (34, 26), (34, 27), (34, 28), (34, 29), (34, 30)] rfl (by decide +kernel)
set_option maxRecDepth 20000 in
theorem gL_law_X6_sale : GoodIn wsL_law (wsV RL 113 RX6 yX6_sale wsX6_sale) := goodIn_app (goodIn_g wsL_chunks wsL_chunks_in ([.methodLink RL 113 yX6_sale, .instanceMethod yX6_sale, .selects RX6 yX6_sale yX6_sale, .initialized RX6] : List Cond) [(29, 17), (29, 18), (29, 19), (0, 5)] (by decide +kernel) (by decide +kernel)) ggL_law_X6_sale
set_option maxRecDepth 20000 in
theorem ggL_law_X5_meanPrice : GoodIn wsL_law wsX5_meanPrice := goodIn_g wsL_chunks wsL_chunks_in wsX5_meanPrice [(30, 5), (0, 23), (13, 3), (14, 14), (9, 11), (9, 12), (9, 13), (0, 22), (9, 14), (9, 15), (13, 4), (13, 5), (13, 6), (13, 7), (13, 8), (13, 9), (13, 10), (13, 11), (13, 12), (13, 13), (13, 14), (13, 15), (13, 16), (13, 17), (13, 18), (13, 19), (2, 4), (18, 22), (18, 23), (19, 0), (9, 6), (19, 1), (10, 3), (29, 5), (29, 6), (29, 7), (0, 2), (29, 8), (29, 9), (29, 10), (29, 11), (29, 12), (1, 7), (1, 8), (26, 14), (11, 7), (11, 8), (11, 9), (29, 13), (29, 14), (29, 15), (29, 16), (10, 4), (10, 7), (5, 23), (6, 0), (6, 1), (6, 2), (1, 2), (1, 1), (33, 0), (33, 1), (33, 2), (33, 3), (33, 4), (33, 5), (33, 6), (33, 7), (33, 8), (33, 9), (33, 10), (33, 11), (38, 0), (38, 1), (38, 2), (38, 3), (38, 4), (38, 5), (38, 6), (38, 7), (38, 8), (38, 9), (38, 10), (38, 11), (38, 12), (38, 13), (37, 0), (37, 1), (37, 2)] rfl (by decide +kernel)
set_option maxRecDepth 20000 in
theorem gL_law_X5_meanPrice : GoodIn wsL_law (wsV RL 114 RX5 yX5_meanPrice wsX5_meanPrice) := goodIn_app (goodIn_g wsL_chunks wsL_chunks_in ([.methodLink RL 114 yX5_meanPrice, .instanceMethod yX5_meanPrice, .selects RX5 yX5_meanPrice yX5_meanPrice, .initialized RX5] : List Cond) [(30, 2), (30, 3), (30, 4), (0, 2)] (by decide +kernel) (by decide +kernel)) ggL_law_X5_meanPrice
set_option maxRecDepth 20000 in
theorem ggL_law_X6_meanPrice : GoodIn wsL_law wsX6_meanPrice := goodIn_g wsL_chunks wsL_chunks_in wsX6_meanPrice [(30, 9), (12, 16), (3, 4), (3, 5), (29, 22), (29, 23), (30, 0), (0, 5), (30, 1), (3, 17), (3, 18), (14, 23), (15, 0), (15, 1), (15, 2), (15, 3), (6, 20), (6, 21), (6, 22), (6, 23), (7, 0), (2, 19), (34, 0), (34, 1), (34, 2), (34, 3), (34, 4), (34, 5), (34, 6), (34, 7), (34, 8), (34, 9), (34, 10), (34, 11), (34, 12), (34, 13), (34, 14), (34, 15), (34, 16), (34, 17), (34, 18), (34, 19), (34, 20), (34, 21), (34, 22), (34, 23), (34, 24), (34, 25), (34, 26), (34, 27), (34, 28), (34, 29), (34, 30)] rfl (by decide +kernel)
set_option maxRecDepth 20000 in
theorem gL_law_X6_meanPrice : GoodIn wsL_law (wsV RL 117 RX6 yX6_meanPrice wsX6_meanPrice) := goodIn_app (goodIn_g wsL_chunks wsL_chunks_in ([.methodLink RL 117 yX6_meanPrice, .instanceMethod yX6_meanPrice, .selects RX6 yX6_meanPrice yX6_meanPrice, .initialized RX6] : List Cond) [(30, 6), (30, 7), (30, 8), (0, 5)] (by decide +kernel) (by decide +kernel)) ggL_law_X6_meanPrice
set_option maxRecDepth 20000 in
theorem ggL_law_X5_asked : GoodIn wsL_law wsX5_asked := goodIn_g wsL_chunks wsL_chunks_in wsX5_asked [(30, 13), (1, 9), (33, 0), (33, 1), (33, 2), (33, 3), (33, 4), (33, 5), (33, 6), (33, 7), (33, 8), (33, 9), (33, 10), (33, 11)] rfl (by decide +kernel)
set_option maxRecDepth 20000 in
theorem gL_law_X5_asked : GoodIn wsL_law (wsV RL 118 RX5 yX5_asked wsX5_asked) := goodIn_app (goodIn_g wsL_chunks wsL_chunks_in ([.methodLink RL 118 yX5_asked, .instanceMethod yX5_asked, .selects RX5 yX5_asked yX5_asked, .initialized RX5] : List Cond) [(30, 10), (30, 11), (30, 12), (0, 2)] (by decide +kernel) (by decide +kernel)) ggL_law_X5_asked
set_option maxRecDepth 20000 in
theorem ggL_law_X6_asked : GoodIn wsL_law wsX6_asked := goodIn_g wsL_chunks wsL_chunks_in wsX6_asked [(30, 17), (29, 21), (34, 0), (34, 1), (34, 2), (34, 3), (34, 4), (34, 5), (34, 6), (34, 7), (34, 8), (34, 9), (34, 10), (34, 11), (34, 12), (34, 13), (34, 14), (34, 15), (34, 16), (34, 17), (34, 18), (34, 19), (34, 20), (34, 21), (34, 22), (34, 23), (34, 24), (34, 25), (34, 26), (34, 27), (34, 28), (34, 29), (34, 30)] rfl (by decide +kernel)
set_option maxRecDepth 20000 in
theorem gL_law_X6_asked : GoodIn wsL_law (wsV RL 122 RX6 yX6_asked wsX6_asked) := goodIn_app (goodIn_g wsL_chunks wsL_chunks_in ([.methodLink RL 122 yX6_asked, .instanceMethod yX6_asked, .selects RX6 yX6_asked yX6_asked, .initialized RX6] : List Cond) [(30, 14), (30, 15), (30, 16), (0, 5)] (by decide +kernel) (by decide +kernel)) ggL_law_X6_asked
set_option maxRecDepth 20000 in
theorem ggL_law_X5_count : GoodIn wsL_law wsX5_count := goodIn_g wsL_chunks wsL_chunks_in wsX5_count [(30, 21), (0, 23), (1, 3), (0, 15), (1, 6), (9, 11), (9, 12), (9, 13), (0, 22), (9, 14), (9, 15), (30, 22), (30, 23), (31, 0), (0, 14), (31, 1), (1, 15), (18, 18), (18, 19), (18, 20), (0, 2), (18, 21), (13, 3), (13, 4), (13, 5), (13, 6), (13, 7), (13, 8), (13, 9), (13, 10), (13, 11), (13, 12), (13, 13), (13, 14), (13, 15), (13, 16), (13, 17), (13, 18), (13, 19), (2, 4), (18, 22), (18, 23), (19, 0), (9, 6), (19, 1), (10, 3), (33, 0), (33, 1), (33, 2), (33, 3), (33, 4), (33, 5), (33, 6), (33, 7), (33, 8), (33, 9), (33, 10), (33, 11), (37, 0), (37, 1), (37, 2), (35, 0), (35, 1), (35, 2), (38, 0), (38, 1), (38, 2), (38, 3), (38, 4), (38, 5), (38, 6), (38, 7), (38, 8), (38, 9), (38, 10), (38, 11), (38, 12), (38, 13)] rfl (by decide +kernel)
set_option maxRecDepth 20000 in
theorem gL_law_X5_count : GoodIn wsL_law (wsV RL 123 RX5 yX5_count wsX5_count) := goodIn_app (goodIn_g wsL_chunks wsL_chunks_in ([.methodLink RL 123 yX5_count, .instanceMethod yX5_count, .selects RX5 yX5_count yX5_count, .initialized RX5] : List Cond) [(30, 18), (30, 19), (30, 20), (0, 2)] (by decide +kernel) (by decide +kernel)) ggL_law_X5_count
set_option maxRecDepth 20000 in
theorem ggL_law_X6_count : GoodIn wsL_law wsX6_count := goodIn_g wsL_chunks wsL_chunks_in wsX6_count [(31, 5), (4, 17), (4, 18), (0, 5), (4, 19), (31, 6), (31, 7), (31, 8), (31, 9), (2, 21), (12, 16), (12, 17), (25, 18), (21, 2), (21, 3), (21, 4), (21, 5), (3, 4), (34, 0), (34, 1), (34, 2), (34, 3), (34, 4), (34, 5), (34, 6), (34, 7), (34, 8), (34, 9), (34, 10), (34, 11), (34, 12), (34, 13), (34, 14), (34, 15), (34, 16), (34, 17), (34, 18), (34, 19), (34, 20), (34, 21), (34, 22), (34, 23), (34, 24), (34, 25), (34, 26), (34, 27), (34, 28), (34, 29), (34, 30)] rfl (by decide +kernel)
set_option maxRecDepth 20000 in
theorem gL_law_X6_count : GoodIn wsL_law (wsV RL 126 RX6 yX6_count wsX6_count) := goodIn_app (goodIn_g wsL_chunks wsL_chunks_in ([.methodLink RL 126 yX6_count, .instanceMethod yX6_count, .selects RX6 yX6_count yX6_count, .initialized RX6] : List Cond) [(31, 2), (31, 3), (31, 4), (0, 5)] (by decide +kernel) (by decide +kernel)) ggL_law_X6_count
set_option maxRecDepth 20000 in
theorem ggL_law_X5_finding : GoodIn wsL_law wsX5_finding := goodIn_g wsL_chunks wsL_chunks_in wsX5_finding [(31, 13), (1, 2), (33, 0), (33, 1), (33, 2), (33, 3), (33, 4), (33, 5), (33, 6), (33, 7), (33, 8), (33, 9), (33, 10), (33, 11)] rfl (by decide +kernel)
set_option maxRecDepth 20000 in
theorem gL_law_X5_finding : GoodIn wsL_law (wsV RL 127 RX5 yX5_finding wsX5_finding) := goodIn_app (goodIn_g wsL_chunks wsL_chunks_in ([.methodLink RL 127 yX5_finding, .instanceMethod yX5_finding, .selects RX5 yX5_finding yX5_finding, .initialized RX5] : List Cond) [(31, 10), (31, 11), (31, 12), (0, 2)] (by decide +kernel) (by decide +kernel)) ggL_law_X5_finding
set_option maxRecDepth 20000 in
theorem ggL_law_X6_finding : GoodIn wsL_law wsX6_finding := goodIn_g wsL_chunks wsL_chunks_in wsX6_finding [(31, 17), (7, 0), (34, 0), (34, 1), (34, 2), (34, 3), (34, 4), (34, 5), (34, 6), (34, 7), (34, 8), (34, 9), (34, 10), (34, 11), (34, 12), (34, 13), (34, 14), (34, 15), (34, 16), (34, 17), (34, 18), (34, 19), (34, 20), (34, 21), (34, 22), (34, 23), (34, 24), (34, 25), (34, 26), (34, 27), (34, 28), (34, 29), (34, 30)] rfl (by decide +kernel)
set_option maxRecDepth 20000 in
theorem gL_law_X6_finding : GoodIn wsL_law (wsV RL 130 RX6 yX6_finding wsX6_finding) := goodIn_app (goodIn_g wsL_chunks wsL_chunks_in ([.methodLink RL 130 yX6_finding, .instanceMethod yX6_finding, .selects RX6 yX6_finding yX6_finding, .initialized RX6] : List Cond) [(31, 14), (31, 15), (31, 16), (0, 5)] (by decide +kernel) (by decide +kernel)) ggL_law_X6_finding
set_option maxRecDepth 20000 in
theorem ggL_law_X5_findings : GoodIn wsL_law wsX5_findings := goodIn_g wsL_chunks wsL_chunks_in wsX5_findings [(31, 21), (1, 1), (33, 0), (33, 1), (33, 2), (33, 3), (33, 4), (33, 5), (33, 6), (33, 7), (33, 8), (33, 9), (33, 10), (33, 11)] rfl (by decide +kernel)
set_option maxRecDepth 20000 in
theorem gL_law_X5_findings : GoodIn wsL_law (wsV RL 131 RX5 yX5_findings wsX5_findings) := goodIn_app (goodIn_g wsL_chunks wsL_chunks_in ([.methodLink RL 131 yX5_findings, .instanceMethod yX5_findings, .selects RX5 yX5_findings yX5_findings, .initialized RX5] : List Cond) [(31, 18), (31, 19), (31, 20), (0, 2)] (by decide +kernel) (by decide +kernel)) ggL_law_X5_findings
set_option maxRecDepth 20000 in
theorem ggL_law_X6_findings : GoodIn wsL_law wsX6_findings := goodIn_g wsL_chunks wsL_chunks_in wsX6_findings [(32, 1), (2, 19), (4, 17), (4, 18), (0, 5), (4, 19), (34, 0), (34, 1), (34, 2), (34, 3), (34, 4), (34, 5), (34, 6), (34, 7), (34, 8), (34, 9), (34, 10), (34, 11), (34, 12), (34, 13), (34, 14), (34, 15), (34, 16), (34, 17), (34, 18), (34, 19), (34, 20), (34, 21), (34, 22), (34, 23), (34, 24), (34, 25), (34, 26), (34, 27), (34, 28), (34, 29), (34, 30)] rfl (by decide +kernel)
set_option maxRecDepth 20000 in
theorem gL_law_X6_findings : GoodIn wsL_law (wsV RL 134 RX6 yX6_findings wsX6_findings) := goodIn_app (goodIn_g wsL_chunks wsL_chunks_in ([.methodLink RL 134 yX6_findings, .instanceMethod yX6_findings, .selects RX6 yX6_findings yX6_findings, .initialized RX6] : List Cond) [(31, 22), (31, 23), (32, 0), (0, 5)] (by decide +kernel) (by decide +kernel)) ggL_law_X6_findings
set_option maxRecDepth 20000 in
theorem ggL_law_X5_digest : GoodIn wsL_law wsX5_digest := goodIn_g wsL_chunks wsL_chunks_in wsX5_digest [(32, 5), (32, 6), (32, 7), (0, 23), (0, 15), (32, 8), (30, 19), (30, 20), (0, 2), (30, 21), (1, 3), (1, 6), (9, 11), (9, 12), (9, 13), (0, 22), (9, 14), (9, 15), (30, 22), (30, 23), (31, 0), (0, 14), (31, 1), (1, 15), (18, 18), (18, 19), (18, 20), (18, 21), (13, 3), (13, 4), (13, 5), (13, 6), (13, 7), (13, 8), (13, 9), (13, 10), (13, 11), (13, 12), (13, 13), (13, 14), (13, 15), (13, 16), (13, 17), (13, 18), (13, 19), (2, 4), (18, 22), (18, 23), (19, 0), (9, 6), (19, 1), (10, 3), (32, 9), (14, 5), (14, 6), (14, 7), (14, 8), (14, 9), (14, 10), (14, 11), (14, 12), (14, 13), (14, 14), (12, 23), (13, 0), (13, 1), (13, 2), (32, 10), (32, 11), (32, 12), (32, 13), (32, 14), (6, 7), (5, 1), (5, 2), (5, 3), (4, 0), (4, 1), (32, 15), (6, 4), (6, 5), (6, 6), (1, 18), (33, 0), (33, 1), (33, 2), (33, 3), (33, 4), (33, 5), (33, 6), (33, 7), (33, 8), (33, 9), (33, 10), (33, 11), (37, 0), (37, 1), (37, 2), (35, 0), (35, 1), (35, 2), (38, 0), (38, 1), (38, 2), (38, 3), (38, 4), (38, 5), (38, 6), (38, 7), (38, 8), (38, 9), (38, 10), (38, 11), (38, 12), (38, 13)] rfl (by decide +kernel)
set_option maxRecDepth 20000 in
theorem gL_law_X5_digest : GoodIn wsL_law (wsV RL 135 RX5 yX5_digest wsX5_digest) := goodIn_app (goodIn_g wsL_chunks wsL_chunks_in ([.methodLink RL 135 yX5_digest, .instanceMethod yX5_digest, .selects RX5 yX5_digest yX5_digest, .initialized RX5] : List Cond) [(32, 2), (32, 3), (32, 4), (0, 2)] (by decide +kernel) (by decide +kernel)) ggL_law_X5_digest
set_option maxRecDepth 20000 in
theorem ggL_law_X6_digest : GoodIn wsL_law wsX6_digest := goodIn_g wsL_chunks wsL_chunks_in wsX6_digest [(32, 19), (32, 20), (32, 21), (12, 16), (2, 21), (2, 22), (31, 6), (31, 7), (31, 8), (0, 5), (31, 9), (12, 17), (25, 18), (21, 2), (21, 3), (21, 4), (21, 5), (3, 4), (14, 19), (14, 20), (14, 21), (14, 22), (3, 0), (3, 1), (3, 2), (3, 3), (3, 5), (14, 23), (15, 0), (15, 1), (15, 2), (15, 3), (34, 0), (34, 1), (34, 2), (34, 3), (34, 4), (34, 5), (34, 6), (34, 7), (34, 8), (34, 9), (34, 10), (34, 11), (34, 12), (34, 13), (34, 14), (34, 15), (34, 16), (34, 17), (34, 18), (34, 19), (34, 20), (34, 21), (34, 22), (34, 23), (34, 24), (34, 25), (34, 26), (34, 27), (34, 28), (34, 29), (34, 30)] rfl (by decide +kernel)
set_option maxRecDepth 20000 in
theorem gL_law_X6_digest : GoodIn wsL_law (wsV RL 138 RX6 yX6_digest wsX6_digest) := goodIn_app (goodIn_g wsL_chunks wsL_chunks_in ([.methodLink RL 138 yX6_digest, .instanceMethod yX6_digest, .selects RX6 yX6_digest yX6_digest, .initialized RX6] : List Cond) [(32, 16), (32, 17), (32, 18), (0, 5)] (by decide +kernel) (by decide +kernel)) ggL_law_X6_digest
theorem dL_law_0 : decode cL_law 0 = .ok (.new 7, 3) := by decide +kernel
theorem dL_law_3 : decode cL_law 3 = .ok (.dup, 1) := by decide +kernel
theorem dL_law_4 : decode cL_law 4 = .ok (.invokespecial 9, 3) := by decide +kernel
theorem dL_law_7 : decode cL_law 7 = .ok (.astore_n 1, 1) := by decide +kernel
theorem dL_law_8 : decode cL_law 8 = .ok (.new 10, 3) := by decide +kernel
theorem dL_law_11 : decode cL_law 11 = .ok (.dup, 1) := by decide +kernel
theorem dL_law_12 : decode cL_law 12 = .ok (.invokespecial 12, 3) := by decide +kernel
theorem dL_law_15 : decode cL_law 15 = .ok (.astore_n 2, 1) := by decide +kernel
theorem dL_law_16 : decode cL_law 16 = .ok (.iconst 0, 1) := by decide +kernel
theorem dL_law_17 : decode cL_law 17 = .ok (.istore_n 3, 1) := by decide +kernel
theorem dL_law_18 : decode cL_law 18 = .ok (.iload_n 3, 1) := by decide +kernel
theorem dL_law_19 : decode cL_law 19 = .ok (.aload_n 0, 1) := by decide +kernel
theorem dL_law_20 : decode cL_law 20 = .ok (.arraylength, 1) := by decide +kernel
theorem dL_law_21 : decode cL_law 21 = .ok (.bipush 8, 2) := by decide +kernel
theorem dL_law_23 : decode cL_law 23 = .ok (.isub, 1) := by decide +kernel
theorem dL_law_24 : decode cL_law 24 = .ok (.if_icmp .gt 1139, 3) := by decide +kernel
theorem dL_law_27 : decode cL_law 27 = .ok (.aload_n 0, 1) := by decide +kernel
theorem dL_law_28 : decode cL_law 28 = .ok (.iload_n 3, 1) := by decide +kernel
theorem dL_law_29 : decode cL_law 29 = .ok (.iaload, 1) := by decide +kernel
theorem dL_law_30 : decode cL_law 30 = .ok (.bipush 31, 2) := by decide +kernel
theorem dL_law_32 : decode cL_law 32 = .ok (.iand, 1) := by decide +kernel
theorem dL_law_33 : decode cL_law 33 = .ok (.tableswitch 1124 0 28 #[131, 180, 203, 246, 269, 332, 355, 398, 431, 464, 497, 550, 637, 670, 693, 706, 759, 802, 861, 904, 947, 970, 1003, 1026, 1039, 1052, 1075, 1088, 1111], 131) := by decide +kernel
theorem dL_law_164 : decode cL_law 164 = .ok (.aload_n 1, 1) := by decide +kernel
theorem dL_law_165 : decode cL_law 165 = .ok (.aload_n 0, 1) := by decide +kernel
theorem dL_law_166 : decode cL_law 166 = .ok (.iload_n 3, 1) := by decide +kernel
theorem dL_law_167 : decode cL_law 167 = .ok (.iconst 1, 1) := by decide +kernel
theorem dL_law_168 : decode cL_law 168 = .ok (.iadd, 1) := by decide +kernel
theorem dL_law_169 : decode cL_law 169 = .ok (.iaload, 1) := by decide +kernel
theorem dL_law_170 : decode cL_law 170 = .ok (.aload_n 0, 1) := by decide +kernel
theorem dL_law_171 : decode cL_law 171 = .ok (.iload_n 3, 1) := by decide +kernel
theorem dL_law_172 : decode cL_law 172 = .ok (.iconst 2, 1) := by decide +kernel
theorem dL_law_173 : decode cL_law 173 = .ok (.iadd, 1) := by decide +kernel
theorem dL_law_174 : decode cL_law 174 = .ok (.iaload, 1) := by decide +kernel
theorem dL_law_175 : decode cL_law 175 = .ok (.ifCond .eq 7, 3) := by decide +kernel
theorem dL_law_178 : decode cL_law 178 = .ok (.iconst 1, 1) := by decide +kernel
theorem dL_law_179 : decode cL_law 179 = .ok (.goto 4, 3) := by decide +kernel
theorem dL_law_182 : decode cL_law 182 = .ok (.iconst 0, 1) := by decide +kernel
theorem dL_law_183 : decode cL_law 183 = .ok (.invokevirtual 13, 3) := by decide +kernel
theorem dL_law_186 : decode cL_law 186 = .ok (.pop, 1) := by decide +kernel
theorem dL_law_187 : decode cL_law 187 = .ok (.aload_n 2, 1) := by decide +kernel
theorem dL_law_188 : decode cL_law 188 = .ok (.aload_n 0, 1) := by decide +kernel
theorem dL_law_189 : decode cL_law 189 = .ok (.iload_n 3, 1) := by decide +kernel
theorem dL_law_190 : decode cL_law 190 = .ok (.iconst 1, 1) := by decide +kernel
theorem dL_law_191 : decode cL_law 191 = .ok (.iadd, 1) := by decide +kernel
theorem dL_law_192 : decode cL_law 192 = .ok (.iaload, 1) := by decide +kernel
theorem dL_law_193 : decode cL_law 193 = .ok (.aload_n 0, 1) := by decide +kernel
theorem dL_law_194 : decode cL_law 194 = .ok (.iload_n 3, 1) := by decide +kernel
theorem dL_law_195 : decode cL_law 195 = .ok (.iconst 2, 1) := by decide +kernel
theorem dL_law_196 : decode cL_law 196 = .ok (.iadd, 1) := by decide +kernel
theorem dL_law_197 : decode cL_law 197 = .ok (.iaload, 1) := by decide +kernel
theorem dL_law_198 : decode cL_law 198 = .ok (.ifCond .eq 7, 3) := by decide +kernel
theorem dL_law_201 : decode cL_law 201 = .ok (.iconst 1, 1) := by decide +kernel
theorem dL_law_202 : decode cL_law 202 = .ok (.goto 4, 3) := by decide +kernel
theorem dL_law_205 : decode cL_law 205 = .ok (.iconst 0, 1) := by decide +kernel
theorem dL_law_206 : decode cL_law 206 = .ok (.invokevirtual 17, 3) := by decide +kernel
theorem dL_law_209 : decode cL_law 209 = .ok (.pop, 1) := by decide +kernel
theorem dL_law_210 : decode cL_law 210 = .ok (.goto 947, 3) := by decide +kernel
theorem dL_law_213 : decode cL_law 213 = .ok (.aload_n 1, 1) := by decide +kernel
theorem dL_law_214 : decode cL_law 214 = .ok (.aload_n 0, 1) := by decide +kernel
theorem dL_law_215 : decode cL_law 215 = .ok (.iload_n 3, 1) := by decide +kernel
theorem dL_law_216 : decode cL_law 216 = .ok (.iconst 1, 1) := by decide +kernel
theorem dL_law_217 : decode cL_law 217 = .ok (.iadd, 1) := by decide +kernel
theorem dL_law_218 : decode cL_law 218 = .ok (.iaload, 1) := by decide +kernel
theorem dL_law_219 : decode cL_law 219 = .ok (.invokevirtual 18, 3) := by decide +kernel
theorem dL_law_222 : decode cL_law 222 = .ok (.pop, 1) := by decide +kernel
theorem dL_law_223 : decode cL_law 223 = .ok (.aload_n 2, 1) := by decide +kernel
theorem dL_law_224 : decode cL_law 224 = .ok (.aload_n 0, 1) := by decide +kernel
theorem dL_law_225 : decode cL_law 225 = .ok (.iload_n 3, 1) := by decide +kernel
theorem dL_law_226 : decode cL_law 226 = .ok (.iconst 1, 1) := by decide +kernel
theorem dL_law_227 : decode cL_law 227 = .ok (.iadd, 1) := by decide +kernel
theorem dL_law_228 : decode cL_law 228 = .ok (.iaload, 1) := by decide +kernel
theorem dL_law_229 : decode cL_law 229 = .ok (.invokevirtual 22, 3) := by decide +kernel
theorem dL_law_232 : decode cL_law 232 = .ok (.pop, 1) := by decide +kernel
theorem dL_law_233 : decode cL_law 233 = .ok (.goto 924, 3) := by decide +kernel
theorem dL_law_236 : decode cL_law 236 = .ok (.aload_n 1, 1) := by decide +kernel
theorem dL_law_237 : decode cL_law 237 = .ok (.aload_n 0, 1) := by decide +kernel
theorem dL_law_238 : decode cL_law 238 = .ok (.iload_n 3, 1) := by decide +kernel
theorem dL_law_239 : decode cL_law 239 = .ok (.iconst 1, 1) := by decide +kernel
theorem dL_law_240 : decode cL_law 240 = .ok (.iadd, 1) := by decide +kernel
theorem dL_law_241 : decode cL_law 241 = .ok (.iaload, 1) := by decide +kernel
theorem dL_law_242 : decode cL_law 242 = .ok (.aload_n 0, 1) := by decide +kernel
theorem dL_law_243 : decode cL_law 243 = .ok (.iload_n 3, 1) := by decide +kernel
theorem dL_law_244 : decode cL_law 244 = .ok (.iconst 2, 1) := by decide +kernel
theorem dL_law_245 : decode cL_law 245 = .ok (.iadd, 1) := by decide +kernel
theorem dL_law_246 : decode cL_law 246 = .ok (.iaload, 1) := by decide +kernel
theorem dL_law_247 : decode cL_law 247 = .ok (.aload_n 0, 1) := by decide +kernel
theorem dL_law_248 : decode cL_law 248 = .ok (.iload_n 3, 1) := by decide +kernel
theorem dL_law_249 : decode cL_law 249 = .ok (.iconst 3, 1) := by decide +kernel
theorem dL_law_250 : decode cL_law 250 = .ok (.iadd, 1) := by decide +kernel
theorem dL_law_251 : decode cL_law 251 = .ok (.iaload, 1) := by decide +kernel
theorem dL_law_252 : decode cL_law 252 = .ok (.invokevirtual 23, 3) := by decide +kernel
theorem dL_law_255 : decode cL_law 255 = .ok (.pop, 1) := by decide +kernel
theorem dL_law_256 : decode cL_law 256 = .ok (.aload_n 2, 1) := by decide +kernel
theorem dL_law_257 : decode cL_law 257 = .ok (.aload_n 0, 1) := by decide +kernel
theorem dL_law_258 : decode cL_law 258 = .ok (.iload_n 3, 1) := by decide +kernel
theorem dL_law_259 : decode cL_law 259 = .ok (.iconst 1, 1) := by decide +kernel
theorem dL_law_260 : decode cL_law 260 = .ok (.iadd, 1) := by decide +kernel
theorem dL_law_261 : decode cL_law 261 = .ok (.iaload, 1) := by decide +kernel
theorem dL_law_262 : decode cL_law 262 = .ok (.aload_n 0, 1) := by decide +kernel
theorem dL_law_263 : decode cL_law 263 = .ok (.iload_n 3, 1) := by decide +kernel
theorem dL_law_264 : decode cL_law 264 = .ok (.iconst 2, 1) := by decide +kernel
theorem dL_law_265 : decode cL_law 265 = .ok (.iadd, 1) := by decide +kernel
theorem dL_law_266 : decode cL_law 266 = .ok (.iaload, 1) := by decide +kernel
theorem dL_law_267 : decode cL_law 267 = .ok (.aload_n 0, 1) := by decide +kernel
theorem dL_law_268 : decode cL_law 268 = .ok (.iload_n 3, 1) := by decide +kernel
theorem dL_law_269 : decode cL_law 269 = .ok (.iconst 3, 1) := by decide +kernel
theorem dL_law_270 : decode cL_law 270 = .ok (.iadd, 1) := by decide +kernel
theorem dL_law_271 : decode cL_law 271 = .ok (.iaload, 1) := by decide +kernel
theorem dL_law_272 : decode cL_law 272 = .ok (.invokevirtual 27, 3) := by decide +kernel
theorem dL_law_275 : decode cL_law 275 = .ok (.pop, 1) := by decide +kernel
theorem dL_law_276 : decode cL_law 276 = .ok (.goto 881, 3) := by decide +kernel
theorem dL_law_279 : decode cL_law 279 = .ok (.aload_n 1, 1) := by decide +kernel
theorem dL_law_280 : decode cL_law 280 = .ok (.aload_n 0, 1) := by decide +kernel
theorem dL_law_281 : decode cL_law 281 = .ok (.iload_n 3, 1) := by decide +kernel
theorem dL_law_282 : decode cL_law 282 = .ok (.iconst 1, 1) := by decide +kernel
theorem dL_law_283 : decode cL_law 283 = .ok (.iadd, 1) := by decide +kernel
theorem dL_law_284 : decode cL_law 284 = .ok (.iaload, 1) := by decide +kernel
theorem dL_law_285 : decode cL_law 285 = .ok (.invokevirtual 28, 3) := by decide +kernel
theorem dL_law_288 : decode cL_law 288 = .ok (.pop, 1) := by decide +kernel
theorem dL_law_289 : decode cL_law 289 = .ok (.aload_n 2, 1) := by decide +kernel
theorem dL_law_290 : decode cL_law 290 = .ok (.aload_n 0, 1) := by decide +kernel
theorem dL_law_291 : decode cL_law 291 = .ok (.iload_n 3, 1) := by decide +kernel
theorem dL_law_292 : decode cL_law 292 = .ok (.iconst 1, 1) := by decide +kernel
theorem dL_law_293 : decode cL_law 293 = .ok (.iadd, 1) := by decide +kernel
theorem dL_law_294 : decode cL_law 294 = .ok (.iaload, 1) := by decide +kernel
theorem dL_law_295 : decode cL_law 295 = .ok (.invokevirtual 31, 3) := by decide +kernel
theorem dL_law_298 : decode cL_law 298 = .ok (.pop, 1) := by decide +kernel
theorem dL_law_299 : decode cL_law 299 = .ok (.goto 858, 3) := by decide +kernel
theorem dL_law_302 : decode cL_law 302 = .ok (.aload_n 1, 1) := by decide +kernel
theorem dL_law_303 : decode cL_law 303 = .ok (.aload_n 0, 1) := by decide +kernel
theorem dL_law_304 : decode cL_law 304 = .ok (.iload_n 3, 1) := by decide +kernel
theorem dL_law_305 : decode cL_law 305 = .ok (.iconst 1, 1) := by decide +kernel
theorem dL_law_306 : decode cL_law 306 = .ok (.iadd, 1) := by decide +kernel
theorem dL_law_307 : decode cL_law 307 = .ok (.iaload, 1) := by decide +kernel
theorem dL_law_308 : decode cL_law 308 = .ok (.aload_n 0, 1) := by decide +kernel
theorem dL_law_309 : decode cL_law 309 = .ok (.iload_n 3, 1) := by decide +kernel
theorem dL_law_310 : decode cL_law 310 = .ok (.iconst 2, 1) := by decide +kernel
theorem dL_law_311 : decode cL_law 311 = .ok (.iadd, 1) := by decide +kernel
theorem dL_law_312 : decode cL_law 312 = .ok (.iaload, 1) := by decide +kernel
theorem dL_law_313 : decode cL_law 313 = .ok (.aload_n 0, 1) := by decide +kernel
theorem dL_law_314 : decode cL_law 314 = .ok (.iload_n 3, 1) := by decide +kernel
theorem dL_law_315 : decode cL_law 315 = .ok (.iconst 3, 1) := by decide +kernel
theorem dL_law_316 : decode cL_law 316 = .ok (.iadd, 1) := by decide +kernel
theorem dL_law_317 : decode cL_law 317 = .ok (.iaload, 1) := by decide +kernel
theorem dL_law_318 : decode cL_law 318 = .ok (.aload_n 0, 1) := by decide +kernel
theorem dL_law_319 : decode cL_law 319 = .ok (.iload_n 3, 1) := by decide +kernel
theorem dL_law_320 : decode cL_law 320 = .ok (.iconst 4, 1) := by decide +kernel
theorem dL_law_321 : decode cL_law 321 = .ok (.iadd, 1) := by decide +kernel
