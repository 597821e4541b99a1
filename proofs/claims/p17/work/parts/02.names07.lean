theorem dX5_meanPrice_84 : decode cX5_meanPrice 84 = .ok (.l2i, 1) := by decide +kernel
theorem dX5_meanPrice_85 : decode cX5_meanPrice 85 = .ok (.ireturn, 1) := by decide +kernel
theorem dX5_asked_0 : decode cX5_asked 0 = .ok (.aload_n 0, 1) := by decide +kernel
theorem dX5_asked_1 : decode cX5_asked 1 = .ok (.getfield 56, 3) := by decide +kernel
theorem dX5_asked_4 : decode cX5_asked 4 = .ok (.lreturn, 1) := by decide +kernel
set_option maxRecDepth 20000 in
theorem ggX5_count_Jx4a65c_size_8abf5 : GoodIn wsX5_count wsJx4a65c_size_8abf5 := goodIn_r _ [9, 10, 58, 59, 60] rfl (by decide +kernel)
set_option maxRecDepth 20000 in
theorem gX5_count_Jx4a65c_size_8abf5_f107Jx4a65c : GoodIn wsX5_count (va_wsF RX5 107 RJx4a65c ⟨"java/util/List", "size", "()I"⟩ yJx4a65c_size_8abf5 wsJx4a65c_size_8abf5) := goodIn_app (goodIn_of _ (by decide +kernel)) ggX5_count_Jx4a65c_size_8abf5
set_option maxRecDepth 20000 in
theorem ggX5_count_X2_chartsThere : GoodIn wsX5_count wsX2_chartsThere := goodIn_r _ [15, 16, 61, 62, 63] rfl (by decide +kernel)
set_option maxRecDepth 20000 in
theorem gX5_count_X2_chartsThere : GoodIn wsX5_count (wsV RX5 234 RX2 yX2_chartsThere wsX2_chartsThere) := goodIn_app (goodIn_of _ (by decide +kernel)) ggX5_count_X2_chartsThere
set_option maxRecDepth 20000 in
theorem ggX5_count_X5_shipsHome : GoodIn wsX5_count wsX5_shipsHome := goodIn_r _ [21, 1, 22, 5, 6, 7, 8, 9, 10, 23, 24, 25, 26, 27, 28, 29, 30, 31, 32, 33, 34, 35, 36, 37, 38, 39, 40, 41, 42, 43, 44, 45, 46, 47, 48, 49, 50, 51, 52, 53, 54, 55, 56, 57, 58, 59, 60, 64, 65, 66, 67, 68, 69, 70, 71, 72, 73, 74, 75, 76, 77] rfl (by decide +kernel)
set_option maxRecDepth 20000 in
theorem gX5_count_X5_shipsHome : GoodIn wsX5_count (wsV RX5 172 RX5 yX5_shipsHome wsX5_shipsHome) := goodIn_app (goodIn_of _ (by decide +kernel)) ggX5_count_X5_shipsHome
theorem dX5_count_0 : decode cX5_count 0 = .ok (.iload_n 1, 1) := by decide +kernel
theorem dX5_count_1 : decode cX5_count 1 = .ok (.tableswitch 68 0 4 #[35, 45, 50, 58, 63], 35) := by decide +kernel
theorem dX5_count_36 : decode cX5_count 36 = .ok (.aload_n 0, 1) := by decide +kernel
theorem dX5_count_37 : decode cX5_count 37 = .ok (.getfield 26, 3) := by decide +kernel
theorem dX5_count_40 : decode cX5_count 40 = .ok (.invokeinterface 107 1, 5) := by decide +kernel
theorem dX5_count_45 : decode cX5_count 45 = .ok (.ireturn, 1) := by decide +kernel
theorem dX5_count_46 : decode cX5_count 46 = .ok (.aload_n 0, 1) := by decide +kernel
theorem dX5_count_47 : decode cX5_count 47 = .ok (.getfield 38, 3) := by decide +kernel
theorem dX5_count_50 : decode cX5_count 50 = .ok (.ireturn, 1) := by decide +kernel
theorem dX5_count_51 : decode cX5_count 51 = .ok (.aload_n 0, 1) := by decide +kernel
theorem dX5_count_52 : decode cX5_count 52 = .ok (.getfield 10, 3) := by decide +kernel
theorem dX5_count_55 : decode cX5_count 55 = .ok (.invokevirtual 234, 3) := by decide +kernel
theorem dX5_count_58 : decode cX5_count 58 = .ok (.ireturn, 1) := by decide +kernel
theorem dX5_count_59 : decode cX5_count 59 = .ok (.aload_n 0, 1) := by decide +kernel
theorem dX5_count_60 : decode cX5_count 60 = .ok (.getfield 47, 3) := by decide +kernel
theorem dX5_count_63 : decode cX5_count 63 = .ok (.ireturn, 1) := by decide +kernel
theorem dX5_count_64 : decode cX5_count 64 = .ok (.aload_n 0, 1) := by decide +kernel
theorem dX5_count_65 : decode cX5_count 65 = .ok (.invokevirtual 172, 3) := by decide +kernel
theorem dX5_count_68 : decode cX5_count 68 = .ok (.ireturn, 1) := by decide +kernel
theorem dX5_count_69 : decode cX5_count 69 = .ok (.iconst (-1), 1) := by decide +kernel
theorem dX5_count_70 : decode cX5_count 70 = .ok (.ireturn, 1) := by decide +kernel
theorem dX5_finding_0 : decode cX5_finding 0 = .ok (.aload_n 0, 1) := by decide +kernel
theorem dX5_finding_1 : decode cX5_finding 1 = .ok (.getfield 34, 3) := by decide +kernel
theorem dX5_finding_4 : decode cX5_finding 4 = .ok (.ireturn, 1) := by decide +kernel
theorem dX5_findings_0 : decode cX5_findings 0 = .ok (.iload_n 1, 1) := by decide +kernel
theorem dX5_findings_1 : decode cX5_findings 1 = .ok (.iconst 1, 1) := by decide +kernel
theorem dX5_findings_2 : decode cX5_findings 2 = .ok (.if_icmp .lt 8, 3) := by decide +kernel
theorem dX5_findings_5 : decode cX5_findings 5 = .ok (.iload_n 1, 1) := by decide +kernel
theorem dX5_findings_6 : decode cX5_findings 6 = .ok (.iconst 5, 1) := by decide +kernel
theorem dX5_findings_7 : decode cX5_findings 7 = .ok (.if_icmp .le 5, 3) := by decide +kernel
theorem dX5_findings_10 : decode cX5_findings 10 = .ok (.iconst (-1), 1) := by decide +kernel
theorem dX5_findings_11 : decode cX5_findings 11 = .ok (.ireturn, 1) := by decide +kernel
theorem dX5_findings_12 : decode cX5_findings 12 = .ok (.aload_n 0, 1) := by decide +kernel
theorem dX5_findings_13 : decode cX5_findings 13 = .ok (.getfield 30, 3) := by decide +kernel
theorem dX5_findings_16 : decode cX5_findings 16 = .ok (.iload_n 1, 1) := by decide +kernel
theorem dX5_findings_17 : decode cX5_findings 17 = .ok (.iaload, 1) := by decide +kernel
theorem dX5_findings_18 : decode cX5_findings 18 = .ok (.ireturn, 1) := by decide +kernel
set_option maxRecDepth 20000 in
theorem ggX5_digest_X5_count : GoodIn wsX5_digest wsX5_count := goodIn_r _ [9, 3, 10, 4, 11, 12, 13, 14, 15, 16, 17, 18, 19, 20, 21, 22, 23, 24, 25, 26, 8, 27, 28, 29, 30, 31, 32, 33, 34, 35, 36, 37, 38, 39, 40, 41, 42, 43, 44, 45, 46, 47, 48, 49, 50, 51, 83, 84, 85, 86, 87, 88, 89, 90, 91, 92, 93, 94, 95, 96, 97, 98, 99, 100, 101, 102, 103, 104, 105, 106, 107, 108, 109, 110, 111, 112, 113, 114] rfl (by decide +kernel)
set_option maxRecDepth 20000 in
theorem gX5_digest_X5_count : GoodIn wsX5_digest (wsV RX5 241 RX5 yX5_count wsX5_count) := goodIn_app (goodIn_of _ (by decide +kernel)) ggX5_digest_X5_count
set_option maxRecDepth 20000 in
theorem ggX5_digest_Jx4a65c_size_8abf5 : GoodIn wsX5_digest wsJx4a65c_size_8abf5 := goodIn_r _ [16, 17, 95, 96, 97] rfl (by decide +kernel)
set_option maxRecDepth 20000 in
theorem gX5_digest_Jx4a65c_size_8abf5_f107Jx4a65c : GoodIn wsX5_digest (va_wsF RX5 107 RJx4a65c ⟨"java/util/List", "size", "()I"⟩ yJx4a65c_size_8abf5 wsJx4a65c_size_8abf5) := goodIn_app (goodIn_of _ (by decide +kernel)) ggX5_digest_Jx4a65c_size_8abf5
set_option maxRecDepth 20000 in
theorem ggX5_digest_X5_told : GoodIn wsX5_digest wsX5_told := goodIn_r _ [55, 56, 57, 58, 59, 60, 61, 62, 63, 64, 65, 8, 66, 3, 28, 12, 13, 14, 15, 16, 17, 29, 30, 31, 32, 33, 34, 35, 36, 37, 38, 39, 40, 41, 42, 43, 44, 45, 101, 102, 103, 104, 105, 106, 107, 108, 109, 110, 111, 112, 113, 114, 83, 84, 85, 86, 87, 88, 89, 90, 91, 92, 93, 94, 95, 96, 97] rfl (by decide +kernel)
set_option maxRecDepth 20000 in
theorem gX5_digest_X5_told : GoodIn wsX5_digest (wsV RX5 244 RX5 yX5_told wsX5_told) := goodIn_app (goodIn_of _ (by decide +kernel)) ggX5_digest_X5_told
set_option maxRecDepth 20000 in
theorem ggX5_digest_X2_digestChart : GoodIn wsX5_digest wsX2_digestChart := goodIn_r _ [70, 71, 72, 73, 74, 21, 75, 23, 76, 8, 77, 78, 79, 80, 81, 82, 98, 99, 100] rfl (by decide +kernel)
set_option maxRecDepth 20000 in
theorem gX5_digest_X2_digestChart : GoodIn wsX5_digest (wsV RX5 247 RX2 yX2_digestChart wsX2_digestChart) := goodIn_app (goodIn_of _ (by decide +kernel)) ggX5_digest_X2_digestChart
theorem dX5_digest_0 : decode cX5_digest 0 = .ok (.ldc2_w 237, 3) := by decide +kernel
theorem dX5_digest_3 : decode cX5_digest 3 = .ok (.lstore_n 1, 1) := by decide +kernel
theorem dX5_digest_4 : decode cX5_digest 4 = .ok (.iconst 0, 1) := by decide +kernel
theorem dX5_digest_5 : decode cX5_digest 5 = .ok (.istore_n 3, 1) := by decide +kernel
theorem dX5_digest_6 : decode cX5_digest 6 = .ok (.iload_n 3, 1) := by decide +kernel
theorem dX5_digest_7 : decode cX5_digest 7 = .ok (.iconst 4, 1) := by decide +kernel
theorem dX5_digest_8 : decode cX5_digest 8 = .ok (.if_icmp .gt 22, 3) := by decide +kernel
theorem dX5_digest_11 : decode cX5_digest 11 = .ok (.ldc2_w 239, 3) := by decide +kernel
theorem dX5_digest_14 : decode cX5_digest 14 = .ok (.lload_n 1, 1) := by decide +kernel
theorem dX5_digest_15 : decode cX5_digest 15 = .ok (.lmul, 1) := by decide +kernel
theorem dX5_digest_16 : decode cX5_digest 16 = .ok (.aload_n 0, 1) := by decide +kernel
theorem dX5_digest_17 : decode cX5_digest 17 = .ok (.iload_n 3, 1) := by decide +kernel
theorem dX5_digest_18 : decode cX5_digest 18 = .ok (.invokevirtual 241, 3) := by decide +kernel
theorem dX5_digest_21 : decode cX5_digest 21 = .ok (.i2l, 1) := by decide +kernel
theorem dX5_digest_22 : decode cX5_digest 22 = .ok (.ladd, 1) := by decide +kernel
theorem dX5_digest_23 : decode cX5_digest 23 = .ok (.lstore_n 1, 1) := by decide +kernel
theorem dX5_digest_24 : decode cX5_digest 24 = .ok (.iinc 3 1, 3) := by decide +kernel
theorem dX5_digest_27 : decode cX5_digest 27 = .ok (.goto (-21), 3) := by decide +kernel
theorem dX5_digest_30 : decode cX5_digest 30 = .ok (.iconst 0, 1) := by decide +kernel
theorem dX5_digest_31 : decode cX5_digest 31 = .ok (.istore_n 3, 1) := by decide +kernel
theorem dX5_digest_32 : decode cX5_digest 32 = .ok (.iload_n 3, 1) := by decide +kernel
theorem dX5_digest_33 : decode cX5_digest 33 = .ok (.aload_n 0, 1) := by decide +kernel
theorem dX5_digest_34 : decode cX5_digest 34 = .ok (.getfield 26, 3) := by decide +kernel
theorem dX5_digest_37 : decode cX5_digest 37 = .ok (.invokeinterface 107 1, 5) := by decide +kernel
theorem dX5_digest_42 : decode cX5_digest 42 = .ok (.if_icmp .ge 40, 3) := by decide +kernel
theorem dX5_digest_45 : decode cX5_digest 45 = .ok (.iconst 0, 1) := by decide +kernel
theorem dX5_digest_46 : decode cX5_digest 46 = .ok (.istore 4, 2) := by decide +kernel
theorem dX5_digest_48 : decode cX5_digest 48 = .ok (.iload 4, 2) := by decide +kernel
theorem dX5_digest_50 : decode cX5_digest 50 = .ok (.bipush 6, 2) := by decide +kernel
theorem dX5_digest_52 : decode cX5_digest 52 = .ok (.if_icmp .gt 24, 3) := by decide +kernel
theorem dX5_digest_55 : decode cX5_digest 55 = .ok (.ldc2_w 239, 3) := by decide +kernel
theorem dX5_digest_58 : decode cX5_digest 58 = .ok (.lload_n 1, 1) := by decide +kernel
theorem dX5_digest_59 : decode cX5_digest 59 = .ok (.lmul, 1) := by decide +kernel
theorem dX5_digest_60 : decode cX5_digest 60 = .ok (.aload_n 0, 1) := by decide +kernel
theorem dX5_digest_61 : decode cX5_digest 61 = .ok (.iload_n 3, 1) := by decide +kernel
theorem dX5_digest_62 : decode cX5_digest 62 = .ok (.iload 4, 2) := by decide +kernel
theorem dX5_digest_64 : decode cX5_digest 64 = .ok (.invokevirtual 244, 3) := by decide +kernel
theorem dX5_digest_67 : decode cX5_digest 67 = .ok (.i2l, 1) := by decide +kernel
theorem dX5_digest_68 : decode cX5_digest 68 = .ok (.ladd, 1) := by decide +kernel
theorem dX5_digest_69 : decode cX5_digest 69 = .ok (.lstore_n 1, 1) := by decide +kernel
theorem dX5_digest_70 : decode cX5_digest 70 = .ok (.iinc 4 1, 3) := by decide +kernel
theorem dX5_digest_73 : decode cX5_digest 73 = .ok (.goto (-25), 3) := by decide +kernel
theorem dX5_digest_76 : decode cX5_digest 76 = .ok (.iinc 3 1, 3) := by decide +kernel
theorem dX5_digest_79 : decode cX5_digest 79 = .ok (.goto (-47), 3) := by decide +kernel
theorem dX5_digest_82 : decode cX5_digest 82 = .ok (.iconst 0, 1) := by decide +kernel
theorem dX5_digest_83 : decode cX5_digest 83 = .ok (.istore_n 3, 1) := by decide +kernel
theorem dX5_digest_84 : decode cX5_digest 84 = .ok (.iload_n 3, 1) := by decide +kernel
theorem dX5_digest_85 : decode cX5_digest 85 = .ok (.bipush 12, 2) := by decide +kernel
theorem dX5_digest_87 : decode cX5_digest 87 = .ok (.if_icmp .ge 19, 3) := by decide +kernel
theorem dX5_digest_90 : decode cX5_digest 90 = .ok (.aload_n 0, 1) := by decide +kernel
theorem dX5_digest_91 : decode cX5_digest 91 = .ok (.getfield 10, 3) := by decide +kernel
theorem dX5_digest_94 : decode cX5_digest 94 = .ok (.iload_n 3, 1) := by decide +kernel
theorem dX5_digest_95 : decode cX5_digest 95 = .ok (.lload_n 1, 1) := by decide +kernel
theorem dX5_digest_96 : decode cX5_digest 96 = .ok (.invokevirtual 247, 3) := by decide +kernel
theorem dX5_digest_99 : decode cX5_digest 99 = .ok (.lstore_n 1, 1) := by decide +kernel
theorem dX5_digest_100 : decode cX5_digest 100 = .ok (.iinc 3 1, 3) := by decide +kernel
theorem dX5_digest_103 : decode cX5_digest 103 = .ok (.goto (-19), 3) := by decide +kernel
theorem dX5_digest_106 : decode cX5_digest 106 = .ok (.lload_n 1, 1) := by decide +kernel
theorem dX5_digest_107 : decode cX5_digest 107 = .ok (.lreturn, 1) := by decide +kernel
theorem dX5_outside_0 : decode cX5_outside 0 = .ok (.iload_n 0, 1) := by decide +kernel
theorem dX5_outside_1 : decode cX5_outside 1 = .ok (.ifCond .lt 8, 3) := by decide +kernel
theorem dX5_outside_4 : decode cX5_outside 4 = .ok (.iload_n 0, 1) := by decide +kernel
theorem dX5_outside_5 : decode cX5_outside 5 = .ok (.iload_n 1, 1) := by decide +kernel
theorem dX5_outside_6 : decode cX5_outside 6 = .ok (.if_icmp .le 7, 3) := by decide +kernel
theorem dX5_outside_9 : decode cX5_outside 9 = .ok (.iconst 1, 1) := by decide +kernel
theorem dX5_outside_10 : decode cX5_outside 10 = .ok (.goto 4, 3) := by decide +kernel
theorem dX5_outside_13 : decode cX5_outside 13 = .ok (.iconst 0, 1) := by decide +kernel
theorem dX5_outside_14 : decode cX5_outside 14 = .ok (.ireturn, 1) := by decide +kernel
set_option maxRecDepth 20000 in
theorem ggX5_isNoSpan_X5_outside : GoodIn wsX5_isNoSpan wsX5_outside := goodIn_r _ [4] rfl (by decide +kernel)
set_option maxRecDepth 20000 in
theorem gX5_isNoSpan_X5_outside : GoodIn wsX5_isNoSpan (va_wsS RX5 60 yX5_outside wsX5_outside) := goodIn_app (goodIn_of _ (by decide +kernel)) ggX5_isNoSpan_X5_outside
theorem dX5_isNoSpan_0 : decode cX5_isNoSpan 0 = .ok (.iload_n 0, 1) := by decide +kernel
theorem dX5_isNoSpan_1 : decode cX5_isNoSpan 1 = .ok (.iload_n 2, 1) := by decide +kernel
theorem dX5_isNoSpan_2 : decode cX5_isNoSpan 2 = .ok (.invokestatic 60, 3) := by decide +kernel
theorem dX5_isNoSpan_5 : decode cX5_isNoSpan 5 = .ok (.ifCond .ne 16, 3) := by decide +kernel
theorem dX5_isNoSpan_8 : decode cX5_isNoSpan 8 = .ok (.iload_n 1, 1) := by decide +kernel
theorem dX5_isNoSpan_9 : decode cX5_isNoSpan 9 = .ok (.iload_n 2, 1) := by decide +kernel
theorem dX5_isNoSpan_10 : decode cX5_isNoSpan 10 = .ok (.invokestatic 60, 3) := by decide +kernel
theorem dX5_isNoSpan_13 : decode cX5_isNoSpan 13 = .ok (.ifCond .ne 8, 3) := by decide +kernel
theorem dX5_isNoSpan_16 : decode cX5_isNoSpan 16 = .ok (.iload_n 0, 1) := by decide +kernel
theorem dX5_isNoSpan_17 : decode cX5_isNoSpan 17 = .ok (.iload_n 1, 1) := by decide +kernel
theorem dX5_isNoSpan_18 : decode cX5_isNoSpan 18 = .ok (.if_icmp .le 7, 3) := by decide +kernel
theorem dX5_isNoSpan_21 : decode cX5_isNoSpan 21 = .ok (.iconst 1, 1) := by decide +kernel
theorem dX5_isNoSpan_22 : decode cX5_isNoSpan 22 = .ok (.goto 4, 3) := by decide +kernel
theorem dX5_isNoSpan_25 : decode cX5_isNoSpan 25 = .ok (.iconst 0, 1) := by decide +kernel
theorem dX5_isNoSpan_26 : decode cX5_isNoSpan 26 = .ok (.ireturn, 1) := by decide +kernel
set_option maxRecDepth 20000 in
theorem ggX5_isNoWater_X5_outside : GoodIn wsX5_isNoWater wsX5_outside := goodIn_r _ [5] rfl (by decide +kernel)
set_option maxRecDepth 20000 in
theorem gX5_isNoWater_X5_outside : GoodIn wsX5_isNoWater (va_wsS RX5 60 yX5_outside wsX5_outside) := goodIn_app (goodIn_of _ (by decide +kernel)) ggX5_isNoWater_X5_outside
set_option maxRecDepth 20000 in
theorem ggX5_isNoWater_X2_isLand : GoodIn wsX5_isNoWater wsX2_isLand := goodIn_r _ [10, 11, 3, 4, 5, 24, 25, 26] rfl (by decide +kernel)
set_option maxRecDepth 20000 in
theorem gX5_isNoWater_X2_isLand : GoodIn wsX5_isNoWater (wsV RX5 64 RX2 yX2_isLand wsX2_isLand) := goodIn_app (goodIn_of _ (by decide +kernel)) ggX5_isNoWater_X2_isLand
theorem dX5_isNoWater_0 : decode cX5_isNoWater 0 = .ok (.iload_n 1, 1) := by decide +kernel
theorem dX5_isNoWater_1 : decode cX5_isNoWater 1 = .ok (.sipush 159, 3) := by decide +kernel
theorem dX5_isNoWater_4 : decode cX5_isNoWater 4 = .ok (.invokestatic 60, 3) := by decide +kernel
theorem dX5_isNoWater_7 : decode cX5_isNoWater 7 = .ok (.ifCond .ne 14, 3) := by decide +kernel
theorem dX5_isNoWater_10 : decode cX5_isNoWater 10 = .ok (.aload_n 0, 1) := by decide +kernel
theorem dX5_isNoWater_11 : decode cX5_isNoWater 11 = .ok (.getfield 10, 3) := by decide +kernel
theorem dX5_isNoWater_14 : decode cX5_isNoWater 14 = .ok (.iload_n 1, 1) := by decide +kernel
theorem dX5_isNoWater_15 : decode cX5_isNoWater 15 = .ok (.invokevirtual 64, 3) := by decide +kernel
theorem dX5_isNoWater_18 : decode cX5_isNoWater 18 = .ok (.ifCond .eq 7, 3) := by decide +kernel
theorem dX5_isNoWater_21 : decode cX5_isNoWater 21 = .ok (.iconst 1, 1) := by decide +kernel
theorem dX5_isNoWater_22 : decode cX5_isNoWater 22 = .ok (.goto 4, 3) := by decide +kernel
theorem dX5_isNoWater_25 : decode cX5_isNoWater 25 = .ok (.iconst 0, 1) := by decide +kernel
theorem dX5_isNoWater_26 : decode cX5_isNoWater 26 = .ok (.ireturn, 1) := by decide +kernel
set_option maxRecDepth 20000 in
theorem ggX5_shipOf_Jx4a65c_size_8abf5 : GoodIn wsX5_shipOf wsJx4a65c_size_8abf5 := goodIn_r _ [7, 8, 38, 39, 40] rfl (by decide +kernel)
set_option maxRecDepth 20000 in
theorem gX5_shipOf_Jx4a65c_size_8abf5_f107Jx4a65c : GoodIn wsX5_shipOf (va_wsF RX5 107 RJx4a65c ⟨"java/util/List", "size", "()I"⟩ yJx4a65c_size_8abf5 wsJx4a65c_size_8abf5) := goodIn_app (goodIn_of _ (by decide +kernel)) ggX5_shipOf_Jx4a65c_size_8abf5
set_option maxRecDepth 20000 in
theorem ggX5_shipOf_Jx4a65c_get_915e3 : GoodIn wsX5_shipOf wsJx4a65c_get_915e3 := goodIn_r _ [12, 8, 13, 14, 15, 16, 17, 18, 19, 20, 21, 22, 23, 6, 24, 25, 38, 39, 40] rfl (by decide +kernel)
set_option maxRecDepth 20000 in
theorem gX5_shipOf_Jx4a65c_get_915e3_f175Jx4a65c : GoodIn wsX5_shipOf (va_wsF RX5 175 RJx4a65c ⟨"java/util/List", "get", "(I)Ljava/lang/Object;"⟩ yJx4a65c_get_915e3 wsJx4a65c_get_915e3) := goodIn_app (goodIn_of _ (by decide +kernel)) ggX5_shipOf_Jx4a65c_get_915e3
theorem dX5_shipOf_0 : decode cX5_shipOf 0 = .ok (.iload_n 1, 1) := by decide +kernel
theorem dX5_shipOf_1 : decode cX5_shipOf 1 = .ok (.ifCond .lt 16, 3) := by decide +kernel
theorem dX5_shipOf_4 : decode cX5_shipOf 4 = .ok (.iload_n 1, 1) := by decide +kernel
theorem dX5_shipOf_5 : decode cX5_shipOf 5 = .ok (.aload_n 0, 1) := by decide +kernel
theorem dX5_shipOf_6 : decode cX5_shipOf 6 = .ok (.getfield 26, 3) := by decide +kernel
theorem dX5_shipOf_9 : decode cX5_shipOf 9 = .ok (.invokeinterface 107 1, 5) := by decide +kernel
theorem dX5_shipOf_14 : decode cX5_shipOf 14 = .ok (.if_icmp .lt 7, 3) := by decide +kernel
theorem dX5_shipOf_17 : decode cX5_shipOf 17 = .ok (.aconst_null, 1) := by decide +kernel
theorem dX5_shipOf_18 : decode cX5_shipOf 18 = .ok (.goto 16, 3) := by decide +kernel
theorem dX5_shipOf_21 : decode cX5_shipOf 21 = .ok (.aload_n 0, 1) := by decide +kernel
theorem dX5_shipOf_22 : decode cX5_shipOf 22 = .ok (.getfield 26, 3) := by decide +kernel
theorem dX5_shipOf_25 : decode cX5_shipOf 25 = .ok (.iload_n 1, 1) := by decide +kernel
theorem dX5_shipOf_26 : decode cX5_shipOf 26 = .ok (.invokeinterface 175 2, 5) := by decide +kernel
theorem dX5_shipOf_31 : decode cX5_shipOf 31 = .ok (.checkcast 113, 3) := by decide +kernel
theorem dX5_shipOf_34 : decode cX5_shipOf 34 = .ok (.areturn, 1) := by decide +kernel
theorem dX5_found_0 : decode cX5_found 0 = .ok (.iload_n 1, 1) := by decide +kernel
theorem dX5_found_1 : decode cX5_found 1 = .ok (.iconst 1, 1) := by decide +kernel
theorem dX5_found_2 : decode cX5_found 2 = .ok (.if_icmp .lt 23, 3) := by decide +kernel
theorem dX5_found_5 : decode cX5_found 5 = .ok (.iload_n 1, 1) := by decide +kernel
theorem dX5_found_6 : decode cX5_found 6 = .ok (.iconst 5, 1) := by decide +kernel
theorem dX5_found_7 : decode cX5_found 7 = .ok (.if_icmp .gt 18, 3) := by decide +kernel
theorem dX5_found_10 : decode cX5_found 10 = .ok (.aload_n 0, 1) := by decide +kernel
theorem dX5_found_11 : decode cX5_found 11 = .ok (.iload_n 1, 1) := by decide +kernel
theorem dX5_found_12 : decode cX5_found 12 = .ok (.putfield 34, 3) := by decide +kernel
theorem dX5_found_15 : decode cX5_found 15 = .ok (.aload_n 0, 1) := by decide +kernel
theorem dX5_found_16 : decode cX5_found 16 = .ok (.getfield 30, 3) := by decide +kernel
theorem dX5_found_19 : decode cX5_found 19 = .ok (.iload_n 1, 1) := by decide +kernel
theorem dX5_found_20 : decode cX5_found 20 = .ok (.dup2, 1) := by decide +kernel
theorem dX5_found_21 : decode cX5_found 21 = .ok (.iaload, 1) := by decide +kernel
theorem dX5_found_22 : decode cX5_found 22 = .ok (.iconst 1, 1) := by decide +kernel
theorem dX5_found_23 : decode cX5_found 23 = .ok (.iadd, 1) := by decide +kernel
theorem dX5_found_24 : decode cX5_found 24 = .ok (.iastore, 1) := by decide +kernel
theorem dX5_found_25 : decode cX5_found 25 = .ok (.bipush (-3), 2) := by decide +kernel
theorem dX5_found_27 : decode cX5_found 27 = .ok (.ireturn, 1) := by decide +kernel
theorem dX5_strengthOf_0 : decode cX5_strengthOf 0 = .ok (.iload_n 0, 1) := by decide +kernel
theorem dX5_strengthOf_1 : decode cX5_strengthOf 1 = .ok (.bipush 10, 2) := by decide +kernel
theorem dX5_strengthOf_3 : decode cX5_strengthOf 3 = .ok (.irem, 1) := by decide +kernel
theorem dX5_strengthOf_4 : decode cX5_strengthOf 4 = .ok (.ireturn, 1) := by decide +kernel
theorem dX5_eighthsBetween_0 : decode cX5_eighthsBetween 0 = .ok (.iload_n 0, 1) := by decide +kernel
theorem dX5_eighthsBetween_1 : decode cX5_eighthsBetween 1 = .ok (.iload_n 1, 1) := by decide +kernel
theorem dX5_eighthsBetween_2 : decode cX5_eighthsBetween 2 = .ok (.isub, 1) := by decide +kernel
theorem dX5_eighthsBetween_3 : decode cX5_eighthsBetween 3 = .ok (.invokestatic 251, 3) := by decide +kernel
theorem dX5_eighthsBetween_6 : decode cX5_eighthsBetween 6 = .ok (.istore_n 2, 1) := by decide +kernel
theorem dX5_eighthsBetween_7 : decode cX5_eighthsBetween 7 = .ok (.iload_n 2, 1) := by decide +kernel
theorem dX5_eighthsBetween_8 : decode cX5_eighthsBetween 8 = .ok (.bipush 8, 2) := by decide +kernel
theorem dX5_eighthsBetween_10 : decode cX5_eighthsBetween 10 = .ok (.iload_n 2, 1) := by decide +kernel
theorem dX5_eighthsBetween_11 : decode cX5_eighthsBetween 11 = .ok (.isub, 1) := by decide +kernel
theorem dX5_eighthsBetween_12 : decode cX5_eighthsBetween 12 = .ok (.invokestatic 256, 3) := by decide +kernel
theorem dX5_eighthsBetween_15 : decode cX5_eighthsBetween 15 = .ok (.ireturn, 1) := by decide +kernel
theorem dX5_needOf_0 : decode cX5_needOf 0 = .ok (.iload_n 0, 1) := by decide +kernel
theorem dX5_needOf_1 : decode cX5_needOf 1 = .ok (.iconst 2, 1) := by decide +kernel
theorem dX5_needOf_2 : decode cX5_needOf 2 = .ok (.irem, 1) := by decide +kernel
theorem dX5_needOf_3 : decode cX5_needOf 3 = .ok (.ifCond .ne 8, 3) := by decide +kernel
theorem dX5_needOf_6 : decode cX5_needOf 6 = .ok (.bipush 60, 2) := by decide +kernel
theorem dX5_needOf_8 : decode cX5_needOf 8 = .ok (.goto 5, 3) := by decide +kernel
theorem dX5_needOf_11 : decode cX5_needOf 11 = .ok (.bipush 85, 2) := by decide +kernel
theorem dX5_needOf_13 : decode cX5_needOf 13 = .ok (.ireturn, 1) := by decide +kernel
set_option maxRecDepth 20000 in
theorem ggX5_monthOf_J9_floorMod_7cf53 : GoodIn wsX5_monthOf wsJ9_floorMod_7cf53 := goodIn_r _ [4] rfl (by decide +kernel)
set_option maxRecDepth 20000 in
theorem gX5_monthOf_J9_floorMod_7cf53 : GoodIn wsX5_monthOf (va_wsS RX5 259 yJ9_floorMod_7cf53 wsJ9_floorMod_7cf53) := goodIn_app (goodIn_of _ (by decide +kernel)) ggX5_monthOf_J9_floorMod_7cf53
theorem dX5_monthOf_0 : decode cX5_monthOf 0 = .ok (.iload_n 0, 1) := by decide +kernel
theorem dX5_monthOf_1 : decode cX5_monthOf 1 = .ok (.sipush 720, 3) := by decide +kernel
theorem dX5_monthOf_4 : decode cX5_monthOf 4 = .ok (.idiv, 1) := by decide +kernel
theorem dX5_monthOf_5 : decode cX5_monthOf 5 = .ok (.bipush 12, 2) := by decide +kernel
theorem dX5_monthOf_7 : decode cX5_monthOf 7 = .ok (.invokestatic 259, 3) := by decide +kernel
theorem dX5_monthOf_10 : decode cX5_monthOf 10 = .ok (.ireturn, 1) := by decide +kernel
set_option maxRecDepth 20000 in
theorem ggX5_entryFrom_J9_floorMod_7cf53 : GoodIn wsX5_entryFrom wsJ9_floorMod_7cf53 := goodIn_r _ [5] rfl (by decide +kernel)
set_option maxRecDepth 20000 in
theorem gX5_entryFrom_J9_floorMod_7cf53 : GoodIn wsX5_entryFrom (va_wsS RX5 259 yJ9_floorMod_7cf53 wsJ9_floorMod_7cf53) := goodIn_app (goodIn_of _ (by decide +kernel)) ggX5_entryFrom_J9_floorMod_7cf53
theorem dX5_entryFrom_0 : decode cX5_entryFrom 0 = .ok (.iload_n 1, 1) := by decide +kernel
theorem dX5_entryFrom_1 : decode cX5_entryFrom 1 = .ok (.aload_n 0, 1) := by decide +kernel
theorem dX5_entryFrom_2 : decode cX5_entryFrom 2 = .ok (.getfield 44, 3) := by decide +kernel
theorem dX5_entryFrom_5 : decode cX5_entryFrom 5 = .ok (.isub, 1) := by decide +kernel
theorem dX5_entryFrom_6 : decode cX5_entryFrom 6 = .ok (.bipush 24, 2) := by decide +kernel
theorem dX5_entryFrom_8 : decode cX5_entryFrom 8 = .ok (.invokestatic 259, 3) := by decide +kernel
theorem dX5_entryFrom_11 : decode cX5_entryFrom 11 = .ok (.istore_n 2, 1) := by decide +kernel
theorem dX5_entryFrom_12 : decode cX5_entryFrom 12 = .ok (.iload_n 2, 1) := by decide +kernel
theorem dX5_entryFrom_13 : decode cX5_entryFrom 13 = .ok (.bipush 6, 2) := by decide +kernel
theorem dX5_entryFrom_15 : decode cX5_entryFrom 15 = .ok (.if_icmp .ge 7, 3) := by decide +kernel
theorem dX5_entryFrom_18 : decode cX5_entryFrom 18 = .ok (.iload_n 1, 1) := by decide +kernel
theorem dX5_entryFrom_19 : decode cX5_entryFrom 19 = .ok (.goto 9, 3) := by decide +kernel
theorem dX5_entryFrom_22 : decode cX5_entryFrom 22 = .ok (.iload_n 1, 1) := by decide +kernel
theorem dX5_entryFrom_23 : decode cX5_entryFrom 23 = .ok (.bipush 24, 2) := by decide +kernel
theorem dX5_entryFrom_25 : decode cX5_entryFrom 25 = .ok (.iadd, 1) := by decide +kernel
theorem dX5_entryFrom_26 : decode cX5_entryFrom 26 = .ok (.iload_n 2, 1) := by decide +kernel
theorem dX5_entryFrom_27 : decode cX5_entryFrom 27 = .ok (.isub, 1) := by decide +kernel
theorem dX5_entryFrom_28 : decode cX5_entryFrom 28 = .ok (.ireturn, 1) := by decide +kernel
set_option maxRecDepth 20000 in
theorem ggX5_sail_X3_isHome : GoodIn wsX5_sail wsX3_isHome := goodIn_r _ [10, 11, 140, 141, 142, 143, 144, 145, 146, 147, 148, 149, 150, 151, 152, 153] rfl (by decide +kernel)
set_option maxRecDepth 20000 in
theorem gX5_sail_X3_isHome : GoodIn wsX5_sail (wsV RX5 222 RX3 yX3_isHome wsX3_isHome) := goodIn_app (goodIn_of _ (by decide +kernel)) ggX5_sail_X3_isHome
set_option maxRecDepth 20000 in
theorem ggX5_sail_X5_monthOf : GoodIn wsX5_sail wsX5_monthOf := goodIn_r _ [15, 16, 17, 18, 19] rfl (by decide +kernel)
set_option maxRecDepth 20000 in
theorem gX5_sail_X5_monthOf : GoodIn wsX5_sail (va_wsS RX5 262 yX5_monthOf wsX5_monthOf) := goodIn_app (goodIn_of _ (by decide +kernel)) ggX5_sail_X5_monthOf
set_option maxRecDepth 20000 in
theorem ggX5_sail_X2_windIn : GoodIn wsX5_sail wsX2_windIn := goodIn_r _ [24, 25, 26, 27, 14, 28, 154, 155, 156] rfl (by decide +kernel)
set_option maxRecDepth 20000 in
theorem gX5_sail_X2_windIn : GoodIn wsX5_sail (wsV RX5 98 RX2 yX2_windIn wsX2_windIn) := goodIn_app (goodIn_of _ (by decide +kernel)) ggX5_sail_X2_windIn
set_option maxRecDepth 20000 in
theorem ggX5_sail_X3_askWay : GoodIn wsX5_sail wsX3_askWay := goodIn_r _ [32, 33, 34, 35, 36, 37, 38, 39, 40, 41, 42, 43, 44, 45, 46, 47, 48, 49, 50, 51, 52, 53, 54, 55, 56, 57, 58, 59, 60, 61, 14, 62, 63, 64, 65, 66, 67, 68, 69, 70, 71, 72, 140, 141, 142, 143, 144, 145, 146, 147, 148, 149, 150, 151, 152, 153, 157, 158, 159, 160, 161, 162, 163, 164, 165] rfl (by decide +kernel)
set_option maxRecDepth 20000 in
theorem gX5_sail_X3_askWay : GoodIn wsX5_sail (wsV RX5 265 RX3 yX3_askWay wsX3_askWay) := goodIn_app (goodIn_of _ (by decide +kernel)) ggX5_sail_X3_askWay
set_option maxRecDepth 20000 in
theorem ggX5_sail_X3_speedIn : GoodIn wsX5_sail wsX3_speedIn := goodIn_r _ [76, 77, 78, 79, 80, 81, 82, 83, 14, 84, 85, 86, 87, 88, 89, 90, 61, 62, 91, 92, 93, 9, 94, 95, 96, 97, 98, 140, 141, 142, 143, 144, 145, 146, 147, 148, 149, 150, 151, 152, 153] rfl (by decide +kernel)
set_option maxRecDepth 20000 in
theorem gX5_sail_X3_speedIn : GoodIn wsX5_sail (wsV RX5 156 RX3 yX3_speedIn wsX3_speedIn) := goodIn_app (goodIn_of _ (by decide +kernel)) ggX5_sail_X3_speedIn
set_option maxRecDepth 20000 in
theorem ggX5_sail_X5_needOf : GoodIn wsX5_sail wsX5_needOf := goodIn_r _ [101] rfl (by decide +kernel)
set_option maxRecDepth 20000 in
theorem gX5_sail_X5_needOf : GoodIn wsX5_sail (va_wsS RX5 268 yX5_needOf wsX5_needOf) := goodIn_app (goodIn_of _ (by decide +kernel)) ggX5_sail_X5_needOf
set_option maxRecDepth 20000 in
theorem ggX5_sail_X5_moveOn : GoodIn wsX5_sail wsX5_moveOn := goodIn_r _ [105, 5, 4, 2, 3, 99, 100, 14, 101, 6, 7, 8, 9, 10, 11, 106, 107, 108, 23, 109, 27, 28, 110, 111, 112, 113, 114, 115, 116, 117, 118, 119, 120, 121, 122, 12, 13, 15, 16, 17, 18, 19, 20, 21, 22, 24, 25, 26, 29, 30, 31, 32, 33, 34, 35, 36, 37, 38, 39, 40, 41, 42, 43, 44, 45, 46, 47, 48, 49, 50, 51, 52, 53, 54, 55, 56, 57, 58, 59, 60, 61, 62, 63, 64, 65, 66, 67, 68, 69, 70, 71, 72, 123, 124, 125, 126, 127, 140, 141, 142, 143, 144, 145, 146, 147, 148, 149, 150, 151, 152, 153, 128, 129, 130, 131, 132, 133, 134, 135, 136, 137, 138, 139, 154, 155, 156, 157, 158, 159, 160, 161, 162, 163, 164, 165] rfl (by decide +kernel)
set_option maxRecDepth 20000 in
theorem gX5_sail_X5_moveOn : GoodIn wsX5_sail (wsV RX5 271 RX5 yX5_moveOn wsX5_moveOn) := goodIn_app (goodIn_of _ (by decide +kernel)) ggX5_sail_X5_moveOn
theorem dX5_sail_0 : decode cX5_sail 0 = .ok (.iconst 0, 1) := by decide +kernel
theorem dX5_sail_1 : decode cX5_sail 1 = .ok (.istore_n 3, 1) := by decide +kernel
theorem dX5_sail_2 : decode cX5_sail 2 = .ok (.aload_n 0, 1) := by decide +kernel
theorem dX5_sail_3 : decode cX5_sail 3 = .ok (.getfield 38, 3) := by decide +kernel
theorem dX5_sail_6 : decode cX5_sail 6 = .ok (.istore 4, 2) := by decide +kernel
theorem dX5_sail_8 : decode cX5_sail 8 = .ok (.iload 4, 2) := by decide +kernel
theorem dX5_sail_10 : decode cX5_sail 10 = .ok (.iload_n 2, 1) := by decide +kernel
theorem dX5_sail_11 : decode cX5_sail 11 = .ok (.if_icmp .ge 135, 3) := by decide +kernel
theorem dX5_sail_14 : decode cX5_sail 14 = .ok (.aload_n 1, 1) := by decide +kernel
theorem dX5_sail_15 : decode cX5_sail 15 = .ok (.invokevirtual 222, 3) := by decide +kernel
theorem dX5_sail_18 : decode cX5_sail 18 = .ok (.ifCond .ne 128, 3) := by decide +kernel
theorem dX5_sail_21 : decode cX5_sail 21 = .ok (.iload 4, 2) := by decide +kernel
theorem dX5_sail_23 : decode cX5_sail 23 = .ok (.aload_n 0, 1) := by decide +kernel
theorem dX5_sail_24 : decode cX5_sail 24 = .ok (.getfield 38, 3) := by decide +kernel
theorem dX5_sail_27 : decode cX5_sail 27 = .ok (.if_icmp .eq 12, 3) := by decide +kernel
theorem dX5_sail_30 : decode cX5_sail 30 = .ok (.iload 4, 2) := by decide +kernel
theorem dX5_sail_32 : decode cX5_sail 32 = .ok (.sipush 720, 3) := by decide +kernel
theorem dX5_sail_35 : decode cX5_sail 35 = .ok (.irem, 1) := by decide +kernel
theorem dX5_sail_36 : decode cX5_sail 36 = .ok (.ifCond .ne 48, 3) := by decide +kernel
theorem dX5_sail_39 : decode cX5_sail 39 = .ok (.aload_n 1, 1) := by decide +kernel
theorem dX5_sail_40 : decode cX5_sail 40 = .ok (.aload_n 0, 1) := by decide +kernel
theorem dX5_sail_41 : decode cX5_sail 41 = .ok (.getfield 10, 3) := by decide +kernel
theorem dX5_sail_44 : decode cX5_sail 44 = .ok (.iload 4, 2) := by decide +kernel
theorem dX5_sail_46 : decode cX5_sail 46 = .ok (.invokestatic 262, 3) := by decide +kernel
theorem dX5_sail_49 : decode cX5_sail 49 = .ok (.aload_n 1, 1) := by decide +kernel
theorem dX5_sail_50 : decode cX5_sail 50 = .ok (.getfield 132, 3) := by decide +kernel
theorem dX5_sail_53 : decode cX5_sail 53 = .ok (.invokevirtual 98, 3) := by decide +kernel
theorem dX5_sail_56 : decode cX5_sail 56 = .ok (.invokevirtual 265, 3) := by decide +kernel
theorem dX5_sail_59 : decode cX5_sail 59 = .ok (.aload_n 1, 1) := by decide +kernel
theorem dX5_sail_60 : decode cX5_sail 60 = .ok (.aload_n 1, 1) := by decide +kernel
theorem dX5_sail_61 : decode cX5_sail 61 = .ok (.getfield 138, 3) := by decide +kernel
theorem dX5_sail_64 : decode cX5_sail 64 = .ok (.aload_n 0, 1) := by decide +kernel
theorem dX5_sail_65 : decode cX5_sail 65 = .ok (.getfield 10, 3) := by decide +kernel
theorem dX5_sail_68 : decode cX5_sail 68 = .ok (.iload 4, 2) := by decide +kernel
theorem dX5_sail_70 : decode cX5_sail 70 = .ok (.invokestatic 262, 3) := by decide +kernel
theorem dX5_sail_73 : decode cX5_sail 73 = .ok (.aload_n 1, 1) := by decide +kernel
theorem dX5_sail_74 : decode cX5_sail 74 = .ok (.getfield 132, 3) := by decide +kernel
theorem dX5_sail_77 : decode cX5_sail 77 = .ok (.invokevirtual 98, 3) := by decide +kernel
theorem dX5_sail_80 : decode cX5_sail 80 = .ok (.invokevirtual 156, 3) := by decide +kernel
theorem dX5_sail_83 : decode cX5_sail 83 = .ok (.istore_n 3, 1) := by decide +kernel
theorem dX5_sail_84 : decode cX5_sail 84 = .ok (.aload_n 1, 1) := by decide +kernel
theorem dX5_sail_85 : decode cX5_sail 85 = .ok (.dup, 1) := by decide +kernel
theorem dX5_sail_86 : decode cX5_sail 86 = .ok (.getfield 135, 3) := by decide +kernel
theorem dX5_sail_89 : decode cX5_sail 89 = .ok (.iload_n 3, 1) := by decide +kernel
theorem dX5_sail_90 : decode cX5_sail 90 = .ok (.iadd, 1) := by decide +kernel
theorem dX5_sail_91 : decode cX5_sail 91 = .ok (.putfield 135, 3) := by decide +kernel
theorem dX5_sail_94 : decode cX5_sail 94 = .ok (.aload_n 1, 1) := by decide +kernel
theorem dX5_sail_95 : decode cX5_sail 95 = .ok (.getfield 135, 3) := by decide +kernel
theorem dX5_sail_98 : decode cX5_sail 98 = .ok (.aload_n 1, 1) := by decide +kernel
theorem dX5_sail_99 : decode cX5_sail 99 = .ok (.getfield 138, 3) := by decide +kernel
theorem dX5_sail_102 : decode cX5_sail 102 = .ok (.invokestatic 268, 3) := by decide +kernel
theorem dX5_sail_105 : decode cX5_sail 105 = .ok (.if_icmp .lt 35, 3) := by decide +kernel
theorem dX5_sail_108 : decode cX5_sail 108 = .ok (.aload_n 0, 1) := by decide +kernel
theorem dX5_sail_109 : decode cX5_sail 109 = .ok (.aload_n 1, 1) := by decide +kernel
theorem dX5_sail_110 : decode cX5_sail 110 = .ok (.iload 4, 2) := by decide +kernel
theorem dX5_sail_112 : decode cX5_sail 112 = .ok (.invokevirtual 271, 3) := by decide +kernel
theorem dX5_sail_115 : decode cX5_sail 115 = .ok (.aload_n 1, 1) := by decide +kernel
theorem dX5_sail_116 : decode cX5_sail 116 = .ok (.aload_n 1, 1) := by decide +kernel
theorem dX5_sail_117 : decode cX5_sail 117 = .ok (.getfield 138, 3) := by decide +kernel
theorem dX5_sail_120 : decode cX5_sail 120 = .ok (.aload_n 0, 1) := by decide +kernel
theorem dX5_sail_121 : decode cX5_sail 121 = .ok (.getfield 10, 3) := by decide +kernel
theorem dX5_sail_124 : decode cX5_sail 124 = .ok (.iload 4, 2) := by decide +kernel
theorem dX5_sail_126 : decode cX5_sail 126 = .ok (.invokestatic 262, 3) := by decide +kernel
theorem dX5_sail_129 : decode cX5_sail 129 = .ok (.aload_n 1, 1) := by decide +kernel
theorem dX5_sail_130 : decode cX5_sail 130 = .ok (.getfield 132, 3) := by decide +kernel
theorem dX5_sail_133 : decode cX5_sail 133 = .ok (.invokevirtual 98, 3) := by decide +kernel
theorem dX5_sail_136 : decode cX5_sail 136 = .ok (.invokevirtual 156, 3) := by decide +kernel
theorem dX5_sail_139 : decode cX5_sail 139 = .ok (.istore_n 3, 1) := by decide +kernel
theorem dX5_sail_140 : decode cX5_sail 140 = .ok (.iinc 4 1, 3) := by decide +kernel
theorem dX5_sail_143 : decode cX5_sail 143 = .ok (.goto (-135), 3) := by decide +kernel
theorem dX5_sail_146 : decode cX5_sail 146 = .ok (.return_, 1) := by decide +kernel
set_option maxRecDepth 20000 in
theorem ggX5_moveOn_X5_needOf : GoodIn wsX5_moveOn wsX5_needOf := goodIn_r _ [8] rfl (by decide +kernel)
set_option maxRecDepth 20000 in
theorem gX5_moveOn_X5_needOf : GoodIn wsX5_moveOn (va_wsS RX5 268 yX5_needOf wsX5_needOf) := goodIn_app (goodIn_of _ (by decide +kernel)) ggX5_moveOn_X5_needOf
set_option maxRecDepth 20000 in
theorem ggX5_moveOn_X3_isHome : GoodIn wsX5_moveOn wsX3_isHome := goodIn_r _ [13, 14, 97, 98, 99, 100, 101, 102, 103, 104, 105, 106, 107, 108, 109, 110] rfl (by decide +kernel)
set_option maxRecDepth 20000 in
theorem gX5_moveOn_X3_isHome : GoodIn wsX5_moveOn (wsV RX5 222 RX3 yX3_isHome wsX3_isHome) := goodIn_app (goodIn_of _ (by decide +kernel)) ggX5_moveOn_X3_isHome
set_option maxRecDepth 20000 in
theorem ggX5_moveOn_X2_nextCell : GoodIn wsX5_moveOn wsX2_nextCell := goodIn_r _ [19, 20, 7, 21, 22, 23, 24, 18, 25, 26, 123, 124, 125] rfl (by decide +kernel)
set_option maxRecDepth 20000 in
theorem gX5_moveOn_X2_nextCell : GoodIn wsX5_moveOn (wsV RX5 274 RX2 yX2_nextCell wsX2_nextCell) := goodIn_app (goodIn_of _ (by decide +kernel)) ggX5_moveOn_X2_nextCell
set_option maxRecDepth 20000 in
theorem ggX5_moveOn_X5_comeTo : GoodIn wsX5_moveOn wsX5_comeTo := goodIn_r _ [30, 4, 31, 3, 32, 33, 34, 35, 36, 7, 37, 38, 39, 40, 41, 42, 43, 44, 18, 45, 46, 47, 20, 21, 48, 49, 50, 12, 51, 52, 53, 54, 55, 56, 57, 58, 59, 60, 61, 62, 63, 64, 65, 66, 67, 68, 69, 70, 71, 72, 73, 74, 75, 76, 77, 78, 79, 80, 81, 82, 83, 84, 85, 86, 87, 88, 89, 90, 91, 92, 93, 94, 95, 96, 97, 98, 99, 100, 101, 102, 103, 104, 105, 106, 107, 108, 109, 110, 111, 112, 113, 114, 115, 116, 117, 118, 119, 120, 121, 122, 123, 124, 125, 126, 127, 128, 129, 130, 131, 132, 133, 134] rfl (by decide +kernel)
set_option maxRecDepth 20000 in
theorem gX5_moveOn_X5_comeTo : GoodIn wsX5_moveOn (wsV RX5 277 RX5 yX5_comeTo wsX5_comeTo) := goodIn_app (goodIn_of _ (by decide +kernel)) ggX5_moveOn_X5_comeTo
theorem dX5_moveOn_0 : decode cX5_moveOn 0 = .ok (.iconst 0, 1) := by decide +kernel
theorem dX5_moveOn_1 : decode cX5_moveOn 1 = .ok (.istore_n 3, 1) := by decide +kernel
theorem dX5_moveOn_2 : decode cX5_moveOn 2 = .ok (.iload_n 3, 1) := by decide +kernel
theorem dX5_moveOn_3 : decode cX5_moveOn 3 = .ok (.sipush 1000, 3) := by decide +kernel
theorem dX5_moveOn_6 : decode cX5_moveOn 6 = .ok (.if_icmp .ge 86, 3) := by decide +kernel
theorem dX5_moveOn_9 : decode cX5_moveOn 9 = .ok (.aload_n 1, 1) := by decide +kernel
theorem dX5_moveOn_10 : decode cX5_moveOn 10 = .ok (.getfield 135, 3) := by decide +kernel
theorem dX5_moveOn_13 : decode cX5_moveOn 13 = .ok (.aload_n 1, 1) := by decide +kernel
theorem dX5_moveOn_14 : decode cX5_moveOn 14 = .ok (.getfield 138, 3) := by decide +kernel
theorem dX5_moveOn_17 : decode cX5_moveOn 17 = .ok (.invokestatic 268, 3) := by decide +kernel
theorem dX5_moveOn_20 : decode cX5_moveOn 20 = .ok (.if_icmp .lt 72, 3) := by decide +kernel
theorem dX5_moveOn_23 : decode cX5_moveOn 23 = .ok (.aload_n 1, 1) := by decide +kernel
theorem dX5_moveOn_24 : decode cX5_moveOn 24 = .ok (.invokevirtual 222, 3) := by decide +kernel
theorem dX5_moveOn_27 : decode cX5_moveOn 27 = .ok (.ifCond .ne 65, 3) := by decide +kernel
theorem dX5_moveOn_30 : decode cX5_moveOn 30 = .ok (.aload_n 0, 1) := by decide +kernel
theorem dX5_moveOn_31 : decode cX5_moveOn 31 = .ok (.getfield 10, 3) := by decide +kernel
theorem dX5_moveOn_34 : decode cX5_moveOn 34 = .ok (.aload_n 1, 1) := by decide +kernel
theorem dX5_moveOn_35 : decode cX5_moveOn 35 = .ok (.getfield 132, 3) := by decide +kernel
theorem dX5_moveOn_38 : decode cX5_moveOn 38 = .ok (.aload_n 1, 1) := by decide +kernel
theorem dX5_moveOn_39 : decode cX5_moveOn 39 = .ok (.getfield 138, 3) := by decide +kernel
theorem dX5_moveOn_42 : decode cX5_moveOn 42 = .ok (.invokevirtual 274, 3) := by decide +kernel
theorem dX5_moveOn_45 : decode cX5_moveOn 45 = .ok (.istore 4, 2) := by decide +kernel
theorem dX5_moveOn_47 : decode cX5_moveOn 47 = .ok (.iload 4, 2) := by decide +kernel
theorem dX5_moveOn_49 : decode cX5_moveOn 49 = .ok (.bipush (-9), 2) := by decide +kernel
theorem dX5_moveOn_51 : decode cX5_moveOn 51 = .ok (.if_icmp .ne 11, 3) := by decide +kernel
theorem dX5_moveOn_54 : decode cX5_moveOn 54 = .ok (.aload_n 1, 1) := by decide +kernel
theorem dX5_moveOn_55 : decode cX5_moveOn 55 = .ok (.iconst 0, 1) := by decide +kernel
theorem dX5_moveOn_56 : decode cX5_moveOn 56 = .ok (.putfield 135, 3) := by decide +kernel
theorem dX5_moveOn_59 : decode cX5_moveOn 59 = .ok (.goto 27, 3) := by decide +kernel
theorem dX5_moveOn_62 : decode cX5_moveOn 62 = .ok (.aload_n 1, 1) := by decide +kernel
theorem dX5_moveOn_63 : decode cX5_moveOn 63 = .ok (.dup, 1) := by decide +kernel
theorem dX5_moveOn_64 : decode cX5_moveOn 64 = .ok (.getfield 135, 3) := by decide +kernel
theorem dX5_moveOn_67 : decode cX5_moveOn 67 = .ok (.aload_n 1, 1) := by decide +kernel
theorem dX5_moveOn_68 : decode cX5_moveOn 68 = .ok (.getfield 138, 3) := by decide +kernel
theorem dX5_moveOn_71 : decode cX5_moveOn 71 = .ok (.invokestatic 268, 3) := by decide +kernel
theorem dX5_moveOn_74 : decode cX5_moveOn 74 = .ok (.isub, 1) := by decide +kernel
theorem dX5_moveOn_75 : decode cX5_moveOn 75 = .ok (.putfield 135, 3) := by decide +kernel
theorem dX5_moveOn_78 : decode cX5_moveOn 78 = .ok (.aload_n 0, 1) := by decide +kernel
theorem dX5_moveOn_79 : decode cX5_moveOn 79 = .ok (.aload_n 1, 1) := by decide +kernel
theorem dX5_moveOn_80 : decode cX5_moveOn 80 = .ok (.iload 4, 2) := by decide +kernel
theorem dX5_moveOn_82 : decode cX5_moveOn 82 = .ok (.iload_n 2, 1) := by decide +kernel
theorem dX5_moveOn_83 : decode cX5_moveOn 83 = .ok (.invokevirtual 277, 3) := by decide +kernel
theorem dX5_moveOn_86 : decode cX5_moveOn 86 = .ok (.iinc 3 1, 3) := by decide +kernel
theorem dX5_moveOn_89 : decode cX5_moveOn 89 = .ok (.goto (-87), 3) := by decide +kernel
theorem dX5_moveOn_92 : decode cX5_moveOn 92 = .ok (.return_, 1) := by decide +kernel
set_option maxRecDepth 20000 in
theorem ggX5_comeTo_X5_monthOf : GoodIn wsX5_comeTo wsX5_monthOf := goodIn_r _ [10, 11, 12, 13, 14] rfl (by decide +kernel)
set_option maxRecDepth 20000 in
theorem gX5_comeTo_X5_monthOf : GoodIn wsX5_comeTo (va_wsS RX5 262 yX5_monthOf wsX5_monthOf) := goodIn_app (goodIn_of _ (by decide +kernel)) ggX5_comeTo_X5_monthOf
set_option maxRecDepth 20000 in
theorem ggX5_comeTo_X2_windIn : GoodIn wsX5_comeTo wsX2_windIn := goodIn_r _ [19, 20, 21, 22, 9, 23, 100, 101, 102] rfl (by decide +kernel)
set_option maxRecDepth 20000 in
theorem gX5_comeTo_X2_windIn : GoodIn wsX5_comeTo (wsV RX5 98 RX2 yX2_windIn wsX2_windIn) := goodIn_app (goodIn_of _ (by decide +kernel)) ggX5_comeTo_X2_windIn
set_option maxRecDepth 20000 in
theorem ggX5_comeTo_X3_askWay : GoodIn wsX5_comeTo wsX3_askWay := goodIn_r _ [28, 29, 30, 31, 32, 33, 34, 35, 36, 37, 38, 39, 40, 41, 42, 43, 44, 45, 46, 47, 48, 49, 50, 51, 52, 53, 54, 55, 56, 57, 9, 58, 59, 60, 61, 62, 63, 64, 65, 66, 67, 68, 74, 75, 76, 77, 78, 79, 80, 81, 82, 83, 84, 85, 86, 87, 103, 104, 105, 106, 107, 108, 109, 110, 111] rfl (by decide +kernel)
set_option maxRecDepth 20000 in
theorem gX5_comeTo_X3_askWay : GoodIn wsX5_comeTo (wsV RX5 265 RX3 yX3_askWay wsX3_askWay) := goodIn_app (goodIn_of _ (by decide +kernel)) ggX5_comeTo_X3_askWay
set_option maxRecDepth 20000 in
theorem ggX5_comeTo_X5_entryFrom : GoodIn wsX5_comeTo wsX5_entryFrom := goodIn_r _ [72, 73, 11, 12, 13, 14, 88, 89, 90, 91, 92, 93, 94, 95, 96, 97, 98, 99] rfl (by decide +kernel)
set_option maxRecDepth 20000 in
theorem gX5_comeTo_X5_entryFrom : GoodIn wsX5_comeTo (wsV RX5 281 RX5 yX5_entryFrom wsX5_entryFrom) := goodIn_app (goodIn_of _ (by decide +kernel)) ggX5_comeTo_X5_entryFrom
theorem dX5_comeTo_0 : decode cX5_comeTo 0 = .ok (.aload_n 1, 1) := by decide +kernel
theorem dX5_comeTo_1 : decode cX5_comeTo 1 = .ok (.iload_n 2, 1) := by decide +kernel
theorem dX5_comeTo_2 : decode cX5_comeTo 2 = .ok (.putfield 132, 3) := by decide +kernel
theorem dX5_comeTo_5 : decode cX5_comeTo 5 = .ok (.aload_n 1, 1) := by decide +kernel
theorem dX5_comeTo_6 : decode cX5_comeTo 6 = .ok (.dup, 1) := by decide +kernel
theorem dX5_comeTo_7 : decode cX5_comeTo 7 = .ok (.getfield 159, 3) := by decide +kernel
theorem dX5_comeTo_10 : decode cX5_comeTo 10 = .ok (.iconst 1, 1) := by decide +kernel
theorem dX5_comeTo_11 : decode cX5_comeTo 11 = .ok (.iadd, 1) := by decide +kernel
theorem dX5_comeTo_12 : decode cX5_comeTo 12 = .ok (.putfield 159, 3) := by decide +kernel
theorem dX5_comeTo_15 : decode cX5_comeTo 15 = .ok (.aload_n 1, 1) := by decide +kernel
theorem dX5_comeTo_16 : decode cX5_comeTo 16 = .ok (.aload_n 0, 1) := by decide +kernel
theorem dX5_comeTo_17 : decode cX5_comeTo 17 = .ok (.getfield 10, 3) := by decide +kernel
theorem dX5_comeTo_20 : decode cX5_comeTo 20 = .ok (.iload_n 3, 1) := by decide +kernel
theorem dX5_comeTo_21 : decode cX5_comeTo 21 = .ok (.invokestatic 262, 3) := by decide +kernel
theorem dX5_comeTo_24 : decode cX5_comeTo 24 = .ok (.iload_n 2, 1) := by decide +kernel
theorem dX5_comeTo_25 : decode cX5_comeTo 25 = .ok (.invokevirtual 98, 3) := by decide +kernel
theorem dX5_comeTo_28 : decode cX5_comeTo 28 = .ok (.invokevirtual 265, 3) := by decide +kernel
theorem dX5_comeTo_31 : decode cX5_comeTo 31 = .ok (.iload_n 2, 1) := by decide +kernel
theorem dX5_comeTo_32 : decode cX5_comeTo 32 = .ok (.aload_n 0, 1) := by decide +kernel
theorem dX5_comeTo_33 : decode cX5_comeTo 33 = .ok (.getfield 41, 3) := by decide +kernel
theorem dX5_comeTo_36 : decode cX5_comeTo 36 = .ok (.if_icmp .ne 17, 3) := by decide +kernel
theorem dX5_comeTo_39 : decode cX5_comeTo 39 = .ok (.aload_n 1, 1) := by decide +kernel
theorem dX5_comeTo_40 : decode cX5_comeTo 40 = .ok (.iload_n 3, 1) := by decide +kernel
theorem dX5_comeTo_41 : decode cX5_comeTo 41 = .ok (.putfield 141, 3) := by decide +kernel
theorem dX5_comeTo_44 : decode cX5_comeTo 44 = .ok (.aload_n 1, 1) := by decide +kernel
theorem dX5_comeTo_45 : decode cX5_comeTo 45 = .ok (.aload_n 0, 1) := by decide +kernel
theorem dX5_comeTo_46 : decode cX5_comeTo 46 = .ok (.iload_n 3, 1) := by decide +kernel
theorem dX5_comeTo_47 : decode cX5_comeTo 47 = .ok (.invokevirtual 281, 3) := by decide +kernel
theorem dX5_comeTo_50 : decode cX5_comeTo 50 = .ok (.putfield 144, 3) := by decide +kernel
theorem dX5_comeTo_53 : decode cX5_comeTo 53 = .ok (.return_, 1) := by decide +kernel
set_option maxRecDepth 20000 in
theorem ggX5_shipsHome_Jx4a65c_size_8abf5 : GoodIn wsX5_shipsHome wsJx4a65c_size_8abf5 := goodIn_r _ [7, 8, 44, 45, 46] rfl (by decide +kernel)
set_option maxRecDepth 20000 in
theorem gX5_shipsHome_Jx4a65c_size_8abf5_f107Jx4a65c : GoodIn wsX5_shipsHome (va_wsF RX5 107 RJx4a65c ⟨"java/util/List", "size", "()I"⟩ yJx4a65c_size_8abf5 wsJx4a65c_size_8abf5) := goodIn_app (goodIn_of _ (by decide +kernel)) ggX5_shipsHome_Jx4a65c_size_8abf5
set_option maxRecDepth 20000 in
theorem ggX5_shipsHome_Jx4a65c_get_915e3 : GoodIn wsX5_shipsHome wsJx4a65c_get_915e3 := goodIn_r _ [12, 8, 13, 14, 15, 16, 17, 18, 19, 20, 21, 22, 23, 6, 24, 25, 44, 45, 46] rfl (by decide +kernel)
set_option maxRecDepth 20000 in
theorem gX5_shipsHome_Jx4a65c_get_915e3_f175Jx4a65c : GoodIn wsX5_shipsHome (va_wsF RX5 175 RJx4a65c ⟨"java/util/List", "get", "(I)Ljava/lang/Object;"⟩ yJx4a65c_get_915e3 wsJx4a65c_get_915e3) := goodIn_app (goodIn_of _ (by decide +kernel)) ggX5_shipsHome_Jx4a65c_get_915e3
set_option maxRecDepth 20000 in
theorem ggX5_shipsHome_X3_isHome : GoodIn wsX5_shipsHome wsX3_isHome := goodIn_r _ [30, 31, 47, 48, 49, 50, 51, 52, 53, 54, 55, 56, 57, 58, 59, 60] rfl (by decide +kernel)
set_option maxRecDepth 20000 in
theorem gX5_shipsHome_X3_isHome : GoodIn wsX5_shipsHome (wsV RX5 222 RX3 yX3_isHome wsX3_isHome) := goodIn_app (goodIn_of _ (by decide +kernel)) ggX5_shipsHome_X3_isHome
theorem dX5_shipsHome_0 : decode cX5_shipsHome 0 = .ok (.iconst 0, 1) := by decide +kernel
theorem dX5_shipsHome_1 : decode cX5_shipsHome 1 = .ok (.istore_n 1, 1) := by decide +kernel
theorem dX5_shipsHome_2 : decode cX5_shipsHome 2 = .ok (.iconst 0, 1) := by decide +kernel
theorem dX5_shipsHome_3 : decode cX5_shipsHome 3 = .ok (.istore_n 2, 1) := by decide +kernel
theorem dX5_shipsHome_4 : decode cX5_shipsHome 4 = .ok (.iload_n 2, 1) := by decide +kernel
theorem dX5_shipsHome_5 : decode cX5_shipsHome 5 = .ok (.aload_n 0, 1) := by decide +kernel
theorem dX5_shipsHome_6 : decode cX5_shipsHome 6 = .ok (.getfield 26, 3) := by decide +kernel
