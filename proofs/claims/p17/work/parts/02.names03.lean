theorem dX1_comingHour_27 : decode cX1_comingHour 27 = .ok (.iload 7, 2) := by decide +kernel
theorem dX1_comingHour_29 : decode cX1_comingHour 29 = .ok (.sipush 720, 3) := by decide +kernel
theorem dX1_comingHour_32 : decode cX1_comingHour 32 = .ok (.imul, 1) := by decide +kernel
theorem dX1_comingHour_33 : decode cX1_comingHour 33 = .ok (.invokestatic 49, 3) := by decide +kernel
theorem dX1_comingHour_36 : decode cX1_comingHour 36 = .ok (.istore 8, 2) := by decide +kernel
theorem dX1_comingHour_38 : decode cX1_comingHour 38 = .ok (.iload 7, 2) := by decide +kernel
theorem dX1_comingHour_40 : decode cX1_comingHour 40 = .ok (.iconst 1, 1) := by decide +kernel
theorem dX1_comingHour_41 : decode cX1_comingHour 41 = .ok (.iadd, 1) := by decide +kernel
theorem dX1_comingHour_42 : decode cX1_comingHour 42 = .ok (.sipush 720, 3) := by decide +kernel
theorem dX1_comingHour_45 : decode cX1_comingHour 45 = .ok (.imul, 1) := by decide +kernel
theorem dX1_comingHour_46 : decode cX1_comingHour 46 = .ok (.iload 8, 2) := by decide +kernel
theorem dX1_comingHour_48 : decode cX1_comingHour 48 = .ok (.isub, 1) := by decide +kernel
theorem dX1_comingHour_49 : decode cX1_comingHour 49 = .ok (.istore 9, 2) := by decide +kernel
theorem dX1_comingHour_51 : decode cX1_comingHour 51 = .ok (.aload_n 1, 1) := by decide +kernel
theorem dX1_comingHour_52 : decode cX1_comingHour 52 = .ok (.iload_n 3, 1) := by decide +kernel
theorem dX1_comingHour_53 : decode cX1_comingHour 53 = .ok (.aload_n 0, 1) := by decide +kernel
theorem dX1_comingHour_54 : decode cX1_comingHour 54 = .ok (.iload 8, 2) := by decide +kernel
theorem dX1_comingHour_56 : decode cX1_comingHour 56 = .ok (.invokestatic 54, 3) := by decide +kernel
theorem dX1_comingHour_59 : decode cX1_comingHour 59 = .ok (.iload_n 2, 1) := by decide +kernel
theorem dX1_comingHour_60 : decode cX1_comingHour 60 = .ok (.invokevirtual 57, 3) := by decide +kernel
theorem dX1_comingHour_63 : decode cX1_comingHour 63 = .ok (.invokevirtual 60, 3) := by decide +kernel
theorem dX1_comingHour_66 : decode cX1_comingHour 66 = .ok (.istore 10, 2) := by decide +kernel
theorem dX1_comingHour_68 : decode cX1_comingHour 68 = .ok (.iload 10, 2) := by decide +kernel
theorem dX1_comingHour_70 : decode cX1_comingHour 70 = .ok (.iload 9, 2) := by decide +kernel
theorem dX1_comingHour_72 : decode cX1_comingHour 72 = .ok (.imul, 1) := by decide +kernel
theorem dX1_comingHour_73 : decode cX1_comingHour 73 = .ok (.iload 6, 2) := by decide +kernel
theorem dX1_comingHour_75 : decode cX1_comingHour 75 = .ok (.if_icmp .lt 14, 3) := by decide +kernel
theorem dX1_comingHour_78 : decode cX1_comingHour 78 = .ok (.iload 8, 2) := by decide +kernel
theorem dX1_comingHour_80 : decode cX1_comingHour 80 = .ok (.iload 6, 2) := by decide +kernel
theorem dX1_comingHour_82 : decode cX1_comingHour 82 = .ok (.iload 10, 2) := by decide +kernel
theorem dX1_comingHour_84 : decode cX1_comingHour 84 = .ok (.invokestatic 65, 3) := by decide +kernel
theorem dX1_comingHour_87 : decode cX1_comingHour 87 = .ok (.iadd, 1) := by decide +kernel
theorem dX1_comingHour_88 : decode cX1_comingHour 88 = .ok (.ireturn, 1) := by decide +kernel
theorem dX1_comingHour_89 : decode cX1_comingHour 89 = .ok (.iload 6, 2) := by decide +kernel
theorem dX1_comingHour_91 : decode cX1_comingHour 91 = .ok (.iload 10, 2) := by decide +kernel
theorem dX1_comingHour_93 : decode cX1_comingHour 93 = .ok (.iload 9, 2) := by decide +kernel
theorem dX1_comingHour_95 : decode cX1_comingHour 95 = .ok (.imul, 1) := by decide +kernel
theorem dX1_comingHour_96 : decode cX1_comingHour 96 = .ok (.isub, 1) := by decide +kernel
theorem dX1_comingHour_97 : decode cX1_comingHour 97 = .ok (.istore 6, 2) := by decide +kernel
theorem dX1_comingHour_99 : decode cX1_comingHour 99 = .ok (.iinc 7 1, 3) := by decide +kernel
theorem dX1_comingHour_102 : decode cX1_comingHour 102 = .ok (.goto (-88), 3) := by decide +kernel
theorem dX1_comingHour_105 : decode cX1_comingHour 105 = .ok (.iload 5, 2) := by decide +kernel
theorem dX1_comingHour_107 : decode cX1_comingHour 107 = .ok (.iconst 1, 1) := by decide +kernel
theorem dX1_comingHour_108 : decode cX1_comingHour 108 = .ok (.iadd, 1) := by decide +kernel
theorem dX1_comingHour_109 : decode cX1_comingHour 109 = .ok (.ireturn, 1) := by decide +kernel
theorem dX1_hoursFor_0 : decode cX1_hoursFor 0 = .ok (.iload_n 1, 1) := by decide +kernel
theorem dX1_hoursFor_1 : decode cX1_hoursFor 1 = .ok (.ifCond .gt 9, 3) := by decide +kernel
theorem dX1_hoursFor_4 : decode cX1_hoursFor 4 = .ok (.sipush 2001, 3) := by decide +kernel
theorem dX1_hoursFor_7 : decode cX1_hoursFor 7 = .ok (.goto 10, 3) := by decide +kernel
theorem dX1_hoursFor_10 : decode cX1_hoursFor 10 = .ok (.iload_n 0, 1) := by decide +kernel
theorem dX1_hoursFor_11 : decode cX1_hoursFor 11 = .ok (.iload_n 1, 1) := by decide +kernel
theorem dX1_hoursFor_12 : decode cX1_hoursFor 12 = .ok (.iadd, 1) := by decide +kernel
theorem dX1_hoursFor_13 : decode cX1_hoursFor 13 = .ok (.iconst 1, 1) := by decide +kernel
theorem dX1_hoursFor_14 : decode cX1_hoursFor 14 = .ok (.isub, 1) := by decide +kernel
theorem dX1_hoursFor_15 : decode cX1_hoursFor 15 = .ok (.iload_n 1, 1) := by decide +kernel
theorem dX1_hoursFor_16 : decode cX1_hoursFor 16 = .ok (.idiv, 1) := by decide +kernel
theorem dX1_hoursFor_17 : decode cX1_hoursFor 17 = .ok (.ireturn, 1) := by decide +kernel
set_option maxRecDepth 20000 in
theorem ggX1_reach_X5_outside : GoodIn wsX1_reach wsX5_outside := goodIn_r _ [4] rfl (by decide +kernel)
set_option maxRecDepth 20000 in
theorem gX1_reach_X5_outside_n19 : GoodIn wsX1_reach (wsX5_outside) := ggX1_reach_X5_outside
theorem dX1_reach_0 : decode cX1_reach 0 = .ok (.iload_n 1, 1) := by decide +kernel
theorem dX1_reach_1 : decode cX1_reach 1 = .ok (.sipush 159, 3) := by decide +kernel
theorem dX1_reach_4 : decode cX1_reach 4 = .ok (.invokestatic 19, 3) := by decide +kernel
theorem dX1_reach_7 : decode cX1_reach 7 = .ok (.ifCond .ne 20, 3) := by decide +kernel
theorem dX1_reach_10 : decode cX1_reach 10 = .ok (.iload_n 2, 1) := by decide +kernel
theorem dX1_reach_11 : decode cX1_reach 11 = .ok (.aload_n 0, 1) := by decide +kernel
theorem dX1_reach_12 : decode cX1_reach 12 = .ok (.getfield 9, 3) := by decide +kernel
theorem dX1_reach_15 : decode cX1_reach 15 = .ok (.iload_n 1, 1) := by decide +kernel
theorem dX1_reach_16 : decode cX1_reach 16 = .ok (.iaload, 1) := by decide +kernel
theorem dX1_reach_17 : decode cX1_reach 17 = .ok (.if_icmp .ge 10, 3) := by decide +kernel
theorem dX1_reach_20 : decode cX1_reach 20 = .ok (.aload_n 0, 1) := by decide +kernel
theorem dX1_reach_21 : decode cX1_reach 21 = .ok (.getfield 9, 3) := by decide +kernel
theorem dX1_reach_24 : decode cX1_reach 24 = .ok (.iload_n 1, 1) := by decide +kernel
theorem dX1_reach_25 : decode cX1_reach 25 = .ok (.iload_n 2, 1) := by decide +kernel
theorem dX1_reach_26 : decode cX1_reach 26 = .ok (.iastore, 1) := by decide +kernel
theorem dX1_reach_27 : decode cX1_reach 27 = .ok (.return_, 1) := by decide +kernel
theorem dX1_earliestCell_0 : decode cX1_earliestCell 0 = .ok (.bipush (-9), 2) := by decide +kernel
theorem dX1_earliestCell_2 : decode cX1_earliestCell 2 = .ok (.istore_n 1, 1) := by decide +kernel
theorem dX1_earliestCell_3 : decode cX1_earliestCell 3 = .ok (.sipush 2001, 3) := by decide +kernel
theorem dX1_earliestCell_6 : decode cX1_earliestCell 6 = .ok (.istore_n 2, 1) := by decide +kernel
theorem dX1_earliestCell_7 : decode cX1_earliestCell 7 = .ok (.iconst 0, 1) := by decide +kernel
theorem dX1_earliestCell_8 : decode cX1_earliestCell 8 = .ok (.istore_n 3, 1) := by decide +kernel
theorem dX1_earliestCell_9 : decode cX1_earliestCell 9 = .ok (.iload_n 3, 1) := by decide +kernel
theorem dX1_earliestCell_10 : decode cX1_earliestCell 10 = .ok (.sipush 160, 3) := by decide +kernel
theorem dX1_earliestCell_13 : decode cX1_earliestCell 13 = .ok (.if_icmp .ge 37, 3) := by decide +kernel
theorem dX1_earliestCell_16 : decode cX1_earliestCell 16 = .ok (.aload_n 0, 1) := by decide +kernel
theorem dX1_earliestCell_17 : decode cX1_earliestCell 17 = .ok (.getfield 15, 3) := by decide +kernel
theorem dX1_earliestCell_20 : decode cX1_earliestCell 20 = .ok (.iload_n 3, 1) := by decide +kernel
theorem dX1_earliestCell_21 : decode cX1_earliestCell 21 = .ok (.baload, 1) := by decide +kernel
theorem dX1_earliestCell_22 : decode cX1_earliestCell 22 = .ok (.ifCond .ne 22, 3) := by decide +kernel
theorem dX1_earliestCell_25 : decode cX1_earliestCell 25 = .ok (.aload_n 0, 1) := by decide +kernel
theorem dX1_earliestCell_26 : decode cX1_earliestCell 26 = .ok (.getfield 9, 3) := by decide +kernel
theorem dX1_earliestCell_29 : decode cX1_earliestCell 29 = .ok (.iload_n 3, 1) := by decide +kernel
theorem dX1_earliestCell_30 : decode cX1_earliestCell 30 = .ok (.iaload, 1) := by decide +kernel
theorem dX1_earliestCell_31 : decode cX1_earliestCell 31 = .ok (.iload_n 2, 1) := by decide +kernel
theorem dX1_earliestCell_32 : decode cX1_earliestCell 32 = .ok (.if_icmp .ge 12, 3) := by decide +kernel
theorem dX1_earliestCell_35 : decode cX1_earliestCell 35 = .ok (.iload_n 3, 1) := by decide +kernel
theorem dX1_earliestCell_36 : decode cX1_earliestCell 36 = .ok (.istore_n 1, 1) := by decide +kernel
theorem dX1_earliestCell_37 : decode cX1_earliestCell 37 = .ok (.aload_n 0, 1) := by decide +kernel
theorem dX1_earliestCell_38 : decode cX1_earliestCell 38 = .ok (.getfield 9, 3) := by decide +kernel
theorem dX1_earliestCell_41 : decode cX1_earliestCell 41 = .ok (.iload_n 3, 1) := by decide +kernel
theorem dX1_earliestCell_42 : decode cX1_earliestCell 42 = .ok (.iaload, 1) := by decide +kernel
theorem dX1_earliestCell_43 : decode cX1_earliestCell 43 = .ok (.istore_n 2, 1) := by decide +kernel
theorem dX1_earliestCell_44 : decode cX1_earliestCell 44 = .ok (.iinc 3 1, 3) := by decide +kernel
theorem dX1_earliestCell_47 : decode cX1_earliestCell 47 = .ok (.goto (-38), 3) := by decide +kernel
theorem dX1_earliestCell_50 : decode cX1_earliestCell 50 = .ok (.iload_n 1, 1) := by decide +kernel
theorem dX1_earliestCell_51 : decode cX1_earliestCell 51 = .ok (.ireturn, 1) := by decide +kernel
theorem dX2_init_0 : decode cX2_init 0 = .ok (.aload_n 0, 1) := by decide +kernel
theorem dX2_init_1 : decode cX2_init 1 = .ok (.invokespecial 3, 3) := by decide +kernel
theorem dX2_init_4 : decode cX2_init 4 = .ok (.aload_n 0, 1) := by decide +kernel
theorem dX2_init_5 : decode cX2_init 5 = .ok (.sipush 160, 3) := by decide +kernel
theorem dX2_init_8 : decode cX2_init 8 = .ok (.newarray .boolean, 2) := by decide +kernel
theorem dX2_init_10 : decode cX2_init 10 = .ok (.putfield 9, 3) := by decide +kernel
theorem dX2_init_13 : decode cX2_init 13 = .ok (.aload_n 0, 1) := by decide +kernel
theorem dX2_init_14 : decode cX2_init 14 = .ok (.bipush 12, 2) := by decide +kernel
theorem dX2_init_16 : decode cX2_init 16 = .ok (.newarray .boolean, 2) := by decide +kernel
theorem dX2_init_18 : decode cX2_init 18 = .ok (.putfield 15, 3) := by decide +kernel
theorem dX2_init_21 : decode cX2_init 21 = .ok (.aload_n 0, 1) := by decide +kernel
theorem dX2_init_22 : decode cX2_init 22 = .ok (.bipush 12, 2) := by decide +kernel
theorem dX2_init_24 : decode cX2_init 24 = .ok (.sipush 160, 3) := by decide +kernel
theorem dX2_init_27 : decode cX2_init 27 = .ok (.multianewarray 18 2, 4) := by decide +kernel
theorem dX2_init_31 : decode cX2_init 31 = .ok (.putfield 20, 3) := by decide +kernel
theorem dX2_init_34 : decode cX2_init 34 = .ok (.return_, 1) := by decide +kernel
set_option maxRecDepth 20000 in
theorem ggX2_isLand_X5_outside : GoodIn wsX2_isLand wsX5_outside := goodIn_r _ [4] rfl (by decide +kernel)
set_option maxRecDepth 20000 in
theorem gX2_isLand_X5_outside_n23 : GoodIn wsX2_isLand (wsX5_outside) := ggX2_isLand_X5_outside
theorem dX2_isLand_0 : decode cX2_isLand 0 = .ok (.iload_n 1, 1) := by decide +kernel
theorem dX2_isLand_1 : decode cX2_isLand 1 = .ok (.sipush 159, 3) := by decide +kernel
theorem dX2_isLand_4 : decode cX2_isLand 4 = .ok (.invokestatic 23, 3) := by decide +kernel
theorem dX2_isLand_7 : decode cX2_isLand 7 = .ok (.ifCond .ne 16, 3) := by decide +kernel
theorem dX2_isLand_10 : decode cX2_isLand 10 = .ok (.aload_n 0, 1) := by decide +kernel
theorem dX2_isLand_11 : decode cX2_isLand 11 = .ok (.getfield 9, 3) := by decide +kernel
theorem dX2_isLand_14 : decode cX2_isLand 14 = .ok (.iload_n 1, 1) := by decide +kernel
theorem dX2_isLand_15 : decode cX2_isLand 15 = .ok (.baload, 1) := by decide +kernel
theorem dX2_isLand_16 : decode cX2_isLand 16 = .ok (.ifCond .eq 7, 3) := by decide +kernel
theorem dX2_isLand_19 : decode cX2_isLand 19 = .ok (.iconst 1, 1) := by decide +kernel
theorem dX2_isLand_20 : decode cX2_isLand 20 = .ok (.goto 4, 3) := by decide +kernel
theorem dX2_isLand_23 : decode cX2_isLand 23 = .ok (.iconst 0, 1) := by decide +kernel
theorem dX2_isLand_24 : decode cX2_isLand 24 = .ok (.ireturn, 1) := by decide +kernel
set_option maxRecDepth 20000 in
theorem ggX2_setLand_X5_outside : GoodIn wsX2_setLand wsX5_outside := goodIn_r _ [4] rfl (by decide +kernel)
set_option maxRecDepth 20000 in
theorem gX2_setLand_X5_outside_n23 : GoodIn wsX2_setLand (wsX5_outside) := ggX2_setLand_X5_outside
theorem dX2_setLand_0 : decode cX2_setLand 0 = .ok (.iload_n 1, 1) := by decide +kernel
theorem dX2_setLand_1 : decode cX2_setLand 1 = .ok (.sipush 159, 3) := by decide +kernel
theorem dX2_setLand_4 : decode cX2_setLand 4 = .ok (.invokestatic 23, 3) := by decide +kernel
theorem dX2_setLand_7 : decode cX2_setLand 7 = .ok (.ifCond .ne 10, 3) := by decide +kernel
theorem dX2_setLand_10 : decode cX2_setLand 10 = .ok (.aload_n 0, 1) := by decide +kernel
theorem dX2_setLand_11 : decode cX2_setLand 11 = .ok (.getfield 9, 3) := by decide +kernel
theorem dX2_setLand_14 : decode cX2_setLand 14 = .ok (.iload_n 1, 1) := by decide +kernel
theorem dX2_setLand_15 : decode cX2_setLand 15 = .ok (.iload_n 2, 1) := by decide +kernel
theorem dX2_setLand_16 : decode cX2_setLand 16 = .ok (.bastore, 1) := by decide +kernel
theorem dX2_setLand_17 : decode cX2_setLand 17 = .ok (.return_, 1) := by decide +kernel
set_option maxRecDepth 20000 in
theorem ggX2_hasChart_X5_outside : GoodIn wsX2_hasChart wsX5_outside := goodIn_r _ [4] rfl (by decide +kernel)
set_option maxRecDepth 20000 in
theorem gX2_hasChart_X5_outside_n23 : GoodIn wsX2_hasChart (wsX5_outside) := ggX2_hasChart_X5_outside
theorem dX2_hasChart_0 : decode cX2_hasChart 0 = .ok (.iload_n 1, 1) := by decide +kernel
theorem dX2_hasChart_1 : decode cX2_hasChart 1 = .ok (.bipush 11, 2) := by decide +kernel
theorem dX2_hasChart_3 : decode cX2_hasChart 3 = .ok (.invokestatic 23, 3) := by decide +kernel
theorem dX2_hasChart_6 : decode cX2_hasChart 6 = .ok (.ifCond .ne 16, 3) := by decide +kernel
theorem dX2_hasChart_9 : decode cX2_hasChart 9 = .ok (.aload_n 0, 1) := by decide +kernel
theorem dX2_hasChart_10 : decode cX2_hasChart 10 = .ok (.getfield 15, 3) := by decide +kernel
theorem dX2_hasChart_13 : decode cX2_hasChart 13 = .ok (.iload_n 1, 1) := by decide +kernel
theorem dX2_hasChart_14 : decode cX2_hasChart 14 = .ok (.baload, 1) := by decide +kernel
theorem dX2_hasChart_15 : decode cX2_hasChart 15 = .ok (.ifCond .eq 7, 3) := by decide +kernel
theorem dX2_hasChart_18 : decode cX2_hasChart 18 = .ok (.iconst 1, 1) := by decide +kernel
theorem dX2_hasChart_19 : decode cX2_hasChart 19 = .ok (.goto 4, 3) := by decide +kernel
theorem dX2_hasChart_22 : decode cX2_hasChart 22 = .ok (.iconst 0, 1) := by decide +kernel
theorem dX2_hasChart_23 : decode cX2_hasChart 23 = .ok (.ireturn, 1) := by decide +kernel
theorem dX2_chartsThere_0 : decode cX2_chartsThere 0 = .ok (.iconst 0, 1) := by decide +kernel
theorem dX2_chartsThere_1 : decode cX2_chartsThere 1 = .ok (.istore_n 1, 1) := by decide +kernel
theorem dX2_chartsThere_2 : decode cX2_chartsThere 2 = .ok (.iconst 0, 1) := by decide +kernel
theorem dX2_chartsThere_3 : decode cX2_chartsThere 3 = .ok (.istore_n 2, 1) := by decide +kernel
theorem dX2_chartsThere_4 : decode cX2_chartsThere 4 = .ok (.iload_n 2, 1) := by decide +kernel
theorem dX2_chartsThere_5 : decode cX2_chartsThere 5 = .ok (.bipush 12, 2) := by decide +kernel
theorem dX2_chartsThere_7 : decode cX2_chartsThere 7 = .ok (.if_icmp .ge 21, 3) := by decide +kernel
theorem dX2_chartsThere_10 : decode cX2_chartsThere 10 = .ok (.aload_n 0, 1) := by decide +kernel
theorem dX2_chartsThere_11 : decode cX2_chartsThere 11 = .ok (.getfield 15, 3) := by decide +kernel
theorem dX2_chartsThere_14 : decode cX2_chartsThere 14 = .ok (.iload_n 2, 1) := by decide +kernel
theorem dX2_chartsThere_15 : decode cX2_chartsThere 15 = .ok (.baload, 1) := by decide +kernel
theorem dX2_chartsThere_16 : decode cX2_chartsThere 16 = .ok (.ifCond .eq 6, 3) := by decide +kernel
theorem dX2_chartsThere_19 : decode cX2_chartsThere 19 = .ok (.iinc 1 1, 3) := by decide +kernel
theorem dX2_chartsThere_22 : decode cX2_chartsThere 22 = .ok (.iinc 2 1, 3) := by decide +kernel
theorem dX2_chartsThere_25 : decode cX2_chartsThere 25 = .ok (.goto (-21), 3) := by decide +kernel
theorem dX2_chartsThere_28 : decode cX2_chartsThere 28 = .ok (.iload_n 1, 1) := by decide +kernel
theorem dX2_chartsThere_29 : decode cX2_chartsThere 29 = .ok (.ireturn, 1) := by decide +kernel
set_option maxRecDepth 20000 in
theorem ggX2_drawCalm_X5_outside : GoodIn wsX2_drawCalm wsX5_outside := goodIn_r _ [5] rfl (by decide +kernel)
set_option maxRecDepth 20000 in
theorem gX2_drawCalm_X5_outside_n23 : GoodIn wsX2_drawCalm (wsX5_outside) := ggX2_drawCalm_X5_outside
set_option maxRecDepth 20000 in
theorem ggX2_drawCalm_J7_fill_031fb : GoodIn wsX2_drawCalm wsJ7_fill_031fb := goodIn_r _ [9] rfl (by decide +kernel)
set_option maxRecDepth 20000 in
theorem gX2_drawCalm_J7_fill_031fb : GoodIn wsX2_drawCalm (va_wsS RX2 27 yJ7_fill_031fb wsJ7_fill_031fb) := goodIn_app (goodIn_of _ (by decide +kernel)) ggX2_drawCalm_J7_fill_031fb
theorem dX2_drawCalm_0 : decode cX2_drawCalm 0 = .ok (.iload_n 1, 1) := by decide +kernel
theorem dX2_drawCalm_1 : decode cX2_drawCalm 1 = .ok (.bipush 11, 2) := by decide +kernel
theorem dX2_drawCalm_3 : decode cX2_drawCalm 3 = .ok (.invokestatic 23, 3) := by decide +kernel
theorem dX2_drawCalm_6 : decode cX2_drawCalm 6 = .ok (.ifCond .ne 20, 3) := by decide +kernel
theorem dX2_drawCalm_9 : decode cX2_drawCalm 9 = .ok (.aload_n 0, 1) := by decide +kernel
theorem dX2_drawCalm_10 : decode cX2_drawCalm 10 = .ok (.getfield 15, 3) := by decide +kernel
theorem dX2_drawCalm_13 : decode cX2_drawCalm 13 = .ok (.iload_n 1, 1) := by decide +kernel
theorem dX2_drawCalm_14 : decode cX2_drawCalm 14 = .ok (.iconst 1, 1) := by decide +kernel
theorem dX2_drawCalm_15 : decode cX2_drawCalm 15 = .ok (.bastore, 1) := by decide +kernel
theorem dX2_drawCalm_16 : decode cX2_drawCalm 16 = .ok (.aload_n 0, 1) := by decide +kernel
theorem dX2_drawCalm_17 : decode cX2_drawCalm 17 = .ok (.getfield 20, 3) := by decide +kernel
theorem dX2_drawCalm_20 : decode cX2_drawCalm 20 = .ok (.iload_n 1, 1) := by decide +kernel
theorem dX2_drawCalm_21 : decode cX2_drawCalm 21 = .ok (.aaload, 1) := by decide +kernel
theorem dX2_drawCalm_22 : decode cX2_drawCalm 22 = .ok (.iconst 0, 1) := by decide +kernel
theorem dX2_drawCalm_23 : decode cX2_drawCalm 23 = .ok (.invokestatic 27, 3) := by decide +kernel
theorem dX2_drawCalm_26 : decode cX2_drawCalm 26 = .ok (.return_, 1) := by decide +kernel
set_option maxRecDepth 20000 in
theorem ggX2_loseChart_X5_outside : GoodIn wsX2_loseChart wsX5_outside := goodIn_r _ [4] rfl (by decide +kernel)
set_option maxRecDepth 20000 in
theorem gX2_loseChart_X5_outside_n23 : GoodIn wsX2_loseChart (wsX5_outside) := ggX2_loseChart_X5_outside
theorem dX2_loseChart_0 : decode cX2_loseChart 0 = .ok (.iload_n 1, 1) := by decide +kernel
theorem dX2_loseChart_1 : decode cX2_loseChart 1 = .ok (.bipush 11, 2) := by decide +kernel
theorem dX2_loseChart_3 : decode cX2_loseChart 3 = .ok (.invokestatic 23, 3) := by decide +kernel
theorem dX2_loseChart_6 : decode cX2_loseChart 6 = .ok (.ifCond .ne 10, 3) := by decide +kernel
theorem dX2_loseChart_9 : decode cX2_loseChart 9 = .ok (.aload_n 0, 1) := by decide +kernel
theorem dX2_loseChart_10 : decode cX2_loseChart 10 = .ok (.getfield 15, 3) := by decide +kernel
theorem dX2_loseChart_13 : decode cX2_loseChart 13 = .ok (.iload_n 1, 1) := by decide +kernel
theorem dX2_loseChart_14 : decode cX2_loseChart 14 = .ok (.iconst 0, 1) := by decide +kernel
theorem dX2_loseChart_15 : decode cX2_loseChart 15 = .ok (.bastore, 1) := by decide +kernel
theorem dX2_loseChart_16 : decode cX2_loseChart 16 = .ok (.return_, 1) := by decide +kernel
set_option maxRecDepth 20000 in
theorem ggX2_drawnAt_X2_hasChart : GoodIn wsX2_drawnAt wsX2_hasChart := goodIn_r _ [6, 7, 8, 9, 10, 11, 12, 13] rfl (by decide +kernel)
set_option maxRecDepth 20000 in
theorem gX2_drawnAt_X2_hasChart : GoodIn wsX2_drawnAt (wsV RX2 33 RX2 yX2_hasChart wsX2_hasChart) := goodIn_app (goodIn_of _ (by decide +kernel)) ggX2_drawnAt_X2_hasChart
set_option maxRecDepth 20000 in
theorem ggX2_drawnAt_X5_outside : GoodIn wsX2_drawnAt wsX5_outside := goodIn_r _ [10] rfl (by decide +kernel)
set_option maxRecDepth 20000 in
theorem gX2_drawnAt_X5_outside_n23 : GoodIn wsX2_drawnAt (wsX5_outside) := ggX2_drawnAt_X5_outside
theorem dX2_drawnAt_0 : decode cX2_drawnAt 0 = .ok (.aload_n 0, 1) := by decide +kernel
theorem dX2_drawnAt_1 : decode cX2_drawnAt 1 = .ok (.iload_n 1, 1) := by decide +kernel
theorem dX2_drawnAt_2 : decode cX2_drawnAt 2 = .ok (.invokevirtual 33, 3) := by decide +kernel
theorem dX2_drawnAt_5 : decode cX2_drawnAt 5 = .ok (.ifCond .eq 24, 3) := by decide +kernel
theorem dX2_drawnAt_8 : decode cX2_drawnAt 8 = .ok (.iload_n 2, 1) := by decide +kernel
theorem dX2_drawnAt_9 : decode cX2_drawnAt 9 = .ok (.sipush 159, 3) := by decide +kernel
theorem dX2_drawnAt_12 : decode cX2_drawnAt 12 = .ok (.invokestatic 23, 3) := by decide +kernel
theorem dX2_drawnAt_15 : decode cX2_drawnAt 15 = .ok (.ifCond .ne 14, 3) := by decide +kernel
theorem dX2_drawnAt_18 : decode cX2_drawnAt 18 = .ok (.aload_n 0, 1) := by decide +kernel
theorem dX2_drawnAt_19 : decode cX2_drawnAt 19 = .ok (.getfield 20, 3) := by decide +kernel
theorem dX2_drawnAt_22 : decode cX2_drawnAt 22 = .ok (.iload_n 1, 1) := by decide +kernel
theorem dX2_drawnAt_23 : decode cX2_drawnAt 23 = .ok (.aaload, 1) := by decide +kernel
theorem dX2_drawnAt_24 : decode cX2_drawnAt 24 = .ok (.iload_n 2, 1) := by decide +kernel
theorem dX2_drawnAt_25 : decode cX2_drawnAt 25 = .ok (.baload, 1) := by decide +kernel
theorem dX2_drawnAt_26 : decode cX2_drawnAt 26 = .ok (.goto 4, 3) := by decide +kernel
theorem dX2_drawnAt_29 : decode cX2_drawnAt 29 = .ok (.iconst 0, 1) := by decide +kernel
theorem dX2_drawnAt_30 : decode cX2_drawnAt 30 = .ok (.ireturn, 1) := by decide +kernel
set_option maxRecDepth 20000 in
theorem ggX2_drawAt_X2_hasChart : GoodIn wsX2_drawAt wsX2_hasChart := goodIn_r _ [6, 7, 8, 9, 10, 11, 12, 13] rfl (by decide +kernel)
set_option maxRecDepth 20000 in
theorem gX2_drawAt_X2_hasChart : GoodIn wsX2_drawAt (wsV RX2 33 RX2 yX2_hasChart wsX2_hasChart) := goodIn_app (goodIn_of _ (by decide +kernel)) ggX2_drawAt_X2_hasChart
set_option maxRecDepth 20000 in
theorem ggX2_drawAt_X5_outside : GoodIn wsX2_drawAt wsX5_outside := goodIn_r _ [10] rfl (by decide +kernel)
set_option maxRecDepth 20000 in
theorem gX2_drawAt_X5_outside_n23 : GoodIn wsX2_drawAt (wsX5_outside) := ggX2_drawAt_X5_outside
theorem dX2_drawAt_0 : decode cX2_drawAt 0 = .ok (.aload_n 0, 1) := by decide +kernel
theorem dX2_drawAt_1 : decode cX2_drawAt 1 = .ok (.iload_n 1, 1) := by decide +kernel
theorem dX2_drawAt_2 : decode cX2_drawAt 2 = .ok (.invokevirtual 33, 3) := by decide +kernel
theorem dX2_drawAt_5 : decode cX2_drawAt 5 = .ok (.ifCond .eq 22, 3) := by decide +kernel
theorem dX2_drawAt_8 : decode cX2_drawAt 8 = .ok (.iload_n 2, 1) := by decide +kernel
theorem dX2_drawAt_9 : decode cX2_drawAt 9 = .ok (.sipush 159, 3) := by decide +kernel
theorem dX2_drawAt_12 : decode cX2_drawAt 12 = .ok (.invokestatic 23, 3) := by decide +kernel
theorem dX2_drawAt_15 : decode cX2_drawAt 15 = .ok (.ifCond .ne 12, 3) := by decide +kernel
theorem dX2_drawAt_18 : decode cX2_drawAt 18 = .ok (.aload_n 0, 1) := by decide +kernel
theorem dX2_drawAt_19 : decode cX2_drawAt 19 = .ok (.getfield 20, 3) := by decide +kernel
theorem dX2_drawAt_22 : decode cX2_drawAt 22 = .ok (.iload_n 1, 1) := by decide +kernel
theorem dX2_drawAt_23 : decode cX2_drawAt 23 = .ok (.aaload, 1) := by decide +kernel
theorem dX2_drawAt_24 : decode cX2_drawAt 24 = .ok (.iload_n 2, 1) := by decide +kernel
theorem dX2_drawAt_25 : decode cX2_drawAt 25 = .ok (.iload_n 3, 1) := by decide +kernel
theorem dX2_drawAt_26 : decode cX2_drawAt 26 = .ok (.bastore, 1) := by decide +kernel
theorem dX2_drawAt_27 : decode cX2_drawAt 27 = .ok (.return_, 1) := by decide +kernel
set_option maxRecDepth 20000 in
theorem ggX2_copyChart_X2_hasChart : GoodIn wsX2_copyChart wsX2_hasChart := goodIn_r _ [10, 11, 12, 13, 14, 15, 16, 17] rfl (by decide +kernel)
set_option maxRecDepth 20000 in
theorem gX2_copyChart_X2_hasChart : GoodIn wsX2_copyChart (wsV RX2 33 RX2 yX2_hasChart wsX2_hasChart) := goodIn_app (goodIn_of _ (by decide +kernel)) ggX2_copyChart_X2_hasChart
set_option maxRecDepth 20000 in
theorem ggX2_copyChart_X5_outside : GoodIn wsX2_copyChart wsX5_outside := goodIn_r _ [14] rfl (by decide +kernel)
set_option maxRecDepth 20000 in
theorem gX2_copyChart_X5_outside_n23 : GoodIn wsX2_copyChart (wsX5_outside) := ggX2_copyChart_X5_outside
theorem dX2_copyChart_0 : decode cX2_copyChart 0 = .ok (.aload_n 0, 1) := by decide +kernel
theorem dX2_copyChart_1 : decode cX2_copyChart 1 = .ok (.iload_n 1, 1) := by decide +kernel
theorem dX2_copyChart_2 : decode cX2_copyChart 2 = .ok (.invokevirtual 33, 3) := by decide +kernel
theorem dX2_copyChart_5 : decode cX2_copyChart 5 = .ok (.ifCond .eq 16, 3) := by decide +kernel
theorem dX2_copyChart_8 : decode cX2_copyChart 8 = .ok (.aload_n 0, 1) := by decide +kernel
theorem dX2_copyChart_9 : decode cX2_copyChart 9 = .ok (.iload_n 3, 1) := by decide +kernel
theorem dX2_copyChart_10 : decode cX2_copyChart 10 = .ok (.invokevirtual 33, 3) := by decide +kernel
theorem dX2_copyChart_13 : decode cX2_copyChart 13 = .ok (.ifCond .eq 8, 3) := by decide +kernel
theorem dX2_copyChart_16 : decode cX2_copyChart 16 = .ok (.iload 5, 2) := by decide +kernel
theorem dX2_copyChart_18 : decode cX2_copyChart 18 = .ok (.ifCond .ge 4, 3) := by decide +kernel
theorem dX2_copyChart_21 : decode cX2_copyChart 21 = .ok (.return_, 1) := by decide +kernel
theorem dX2_copyChart_22 : decode cX2_copyChart 22 = .ok (.iload_n 2, 1) := by decide +kernel
theorem dX2_copyChart_23 : decode cX2_copyChart 23 = .ok (.sipush 160, 3) := by decide +kernel
theorem dX2_copyChart_26 : decode cX2_copyChart 26 = .ok (.iload 5, 2) := by decide +kernel
theorem dX2_copyChart_28 : decode cX2_copyChart 28 = .ok (.isub, 1) := by decide +kernel
theorem dX2_copyChart_29 : decode cX2_copyChart 29 = .ok (.invokestatic 23, 3) := by decide +kernel
theorem dX2_copyChart_32 : decode cX2_copyChart 32 = .ok (.ifCond .ne 37, 3) := by decide +kernel
theorem dX2_copyChart_35 : decode cX2_copyChart 35 = .ok (.iload 4, 2) := by decide +kernel
theorem dX2_copyChart_37 : decode cX2_copyChart 37 = .ok (.sipush 160, 3) := by decide +kernel
theorem dX2_copyChart_40 : decode cX2_copyChart 40 = .ok (.iload 5, 2) := by decide +kernel
theorem dX2_copyChart_42 : decode cX2_copyChart 42 = .ok (.isub, 1) := by decide +kernel
theorem dX2_copyChart_43 : decode cX2_copyChart 43 = .ok (.invokestatic 23, 3) := by decide +kernel
theorem dX2_copyChart_46 : decode cX2_copyChart 46 = .ok (.ifCond .ne 23, 3) := by decide +kernel
theorem dX2_copyChart_49 : decode cX2_copyChart 49 = .ok (.aload_n 0, 1) := by decide +kernel
theorem dX2_copyChart_50 : decode cX2_copyChart 50 = .ok (.getfield 20, 3) := by decide +kernel
theorem dX2_copyChart_53 : decode cX2_copyChart 53 = .ok (.iload_n 1, 1) := by decide +kernel
theorem dX2_copyChart_54 : decode cX2_copyChart 54 = .ok (.aaload, 1) := by decide +kernel
theorem dX2_copyChart_55 : decode cX2_copyChart 55 = .ok (.iload_n 2, 1) := by decide +kernel
theorem dX2_copyChart_56 : decode cX2_copyChart 56 = .ok (.aload_n 0, 1) := by decide +kernel
theorem dX2_copyChart_57 : decode cX2_copyChart 57 = .ok (.getfield 20, 3) := by decide +kernel
theorem dX2_copyChart_60 : decode cX2_copyChart 60 = .ok (.iload_n 3, 1) := by decide +kernel
theorem dX2_copyChart_61 : decode cX2_copyChart 61 = .ok (.aaload, 1) := by decide +kernel
theorem dX2_copyChart_62 : decode cX2_copyChart 62 = .ok (.iload 4, 2) := by decide +kernel
theorem dX2_copyChart_64 : decode cX2_copyChart 64 = .ok (.iload 5, 2) := by decide +kernel
theorem dX2_copyChart_66 : decode cX2_copyChart 66 = .ok (.invokestatic 37, 3) := by decide +kernel
theorem dX2_copyChart_69 : decode cX2_copyChart 69 = .ok (.return_, 1) := by decide +kernel
set_option maxRecDepth 20000 in
theorem ggX2_windIn_X5_outside : GoodIn wsX2_windIn wsX5_outside := goodIn_r _ [5] rfl (by decide +kernel)
set_option maxRecDepth 20000 in
theorem gX2_windIn_X5_outside_n23 : GoodIn wsX2_windIn (wsX5_outside) := ggX2_windIn_X5_outside
theorem dX2_windIn_0 : decode cX2_windIn 0 = .ok (.iload_n 1, 1) := by decide +kernel
theorem dX2_windIn_1 : decode cX2_windIn 1 = .ok (.bipush 11, 2) := by decide +kernel
theorem dX2_windIn_3 : decode cX2_windIn 3 = .ok (.invokestatic 23, 3) := by decide +kernel
theorem dX2_windIn_6 : decode cX2_windIn 6 = .ok (.ifCond .ne 22, 3) := by decide +kernel
theorem dX2_windIn_9 : decode cX2_windIn 9 = .ok (.iload_n 2, 1) := by decide +kernel
theorem dX2_windIn_10 : decode cX2_windIn 10 = .ok (.sipush 159, 3) := by decide +kernel
theorem dX2_windIn_13 : decode cX2_windIn 13 = .ok (.invokestatic 23, 3) := by decide +kernel
theorem dX2_windIn_16 : decode cX2_windIn 16 = .ok (.ifCond .ne 12, 3) := by decide +kernel
theorem dX2_windIn_19 : decode cX2_windIn 19 = .ok (.aload_n 0, 1) := by decide +kernel
theorem dX2_windIn_20 : decode cX2_windIn 20 = .ok (.getfield 15, 3) := by decide +kernel
theorem dX2_windIn_23 : decode cX2_windIn 23 = .ok (.iload_n 1, 1) := by decide +kernel
theorem dX2_windIn_24 : decode cX2_windIn 24 = .ok (.baload, 1) := by decide +kernel
theorem dX2_windIn_25 : decode cX2_windIn 25 = .ok (.ifCond .ne 5, 3) := by decide +kernel
theorem dX2_windIn_28 : decode cX2_windIn 28 = .ok (.iconst 0, 1) := by decide +kernel
theorem dX2_windIn_29 : decode cX2_windIn 29 = .ok (.ireturn, 1) := by decide +kernel
theorem dX2_windIn_30 : decode cX2_windIn 30 = .ok (.aload_n 0, 1) := by decide +kernel
theorem dX2_windIn_31 : decode cX2_windIn 31 = .ok (.getfield 20, 3) := by decide +kernel
theorem dX2_windIn_34 : decode cX2_windIn 34 = .ok (.iload_n 1, 1) := by decide +kernel
theorem dX2_windIn_35 : decode cX2_windIn 35 = .ok (.aaload, 1) := by decide +kernel
theorem dX2_windIn_36 : decode cX2_windIn 36 = .ok (.iload_n 2, 1) := by decide +kernel
theorem dX2_windIn_37 : decode cX2_windIn 37 = .ok (.baload, 1) := by decide +kernel
theorem dX2_windIn_38 : decode cX2_windIn 38 = .ok (.istore_n 3, 1) := by decide +kernel
theorem dX2_windIn_39 : decode cX2_windIn 39 = .ok (.iload_n 3, 1) := by decide +kernel
theorem dX2_windIn_40 : decode cX2_windIn 40 = .ok (.bipush 79, 2) := by decide +kernel
theorem dX2_windIn_42 : decode cX2_windIn 42 = .ok (.invokestatic 23, 3) := by decide +kernel
theorem dX2_windIn_45 : decode cX2_windIn 45 = .ok (.ifCond .eq 7, 3) := by decide +kernel
theorem dX2_windIn_48 : decode cX2_windIn 48 = .ok (.iconst 0, 1) := by decide +kernel
theorem dX2_windIn_49 : decode cX2_windIn 49 = .ok (.goto 4, 3) := by decide +kernel
theorem dX2_windIn_52 : decode cX2_windIn 52 = .ok (.iload_n 3, 1) := by decide +kernel
theorem dX2_windIn_53 : decode cX2_windIn 53 = .ok (.ireturn, 1) := by decide +kernel
set_option maxRecDepth 20000 in
theorem ggX2_nextCell_X5_outside : GoodIn wsX2_nextCell wsX5_outside := goodIn_r _ [3] rfl (by decide +kernel)
set_option maxRecDepth 20000 in
theorem gX2_nextCell_X5_outside_n23 : GoodIn wsX2_nextCell (wsX5_outside) := ggX2_nextCell_X5_outside
set_option maxRecDepth 20000 in
theorem ggX2_nextCell_X2_isLand : GoodIn wsX2_nextCell wsX2_isLand := goodIn_r _ [8, 9, 1, 2, 3, 10, 11, 12] rfl (by decide +kernel)
set_option maxRecDepth 20000 in
theorem gX2_nextCell_X2_isLand : GoodIn wsX2_nextCell (wsV RX2 50 RX2 yX2_isLand wsX2_isLand) := goodIn_app (goodIn_of _ (by decide +kernel)) ggX2_nextCell_X2_isLand
theorem dX2_nextCell_0 : decode cX2_nextCell 0 = .ok (.iload_n 1, 1) := by decide +kernel
theorem dX2_nextCell_1 : decode cX2_nextCell 1 = .ok (.sipush 159, 3) := by decide +kernel
theorem dX2_nextCell_4 : decode cX2_nextCell 4 = .ok (.invokestatic 23, 3) := by decide +kernel
theorem dX2_nextCell_7 : decode cX2_nextCell 7 = .ok (.ifCond .ne 12, 3) := by decide +kernel
theorem dX2_nextCell_10 : decode cX2_nextCell 10 = .ok (.iload_n 2, 1) := by decide +kernel
theorem dX2_nextCell_11 : decode cX2_nextCell 11 = .ok (.bipush 7, 2) := by decide +kernel
theorem dX2_nextCell_13 : decode cX2_nextCell 13 = .ok (.invokestatic 23, 3) := by decide +kernel
theorem dX2_nextCell_16 : decode cX2_nextCell 16 = .ok (.ifCond .eq 6, 3) := by decide +kernel
theorem dX2_nextCell_19 : decode cX2_nextCell 19 = .ok (.bipush (-9), 2) := by decide +kernel
theorem dX2_nextCell_21 : decode cX2_nextCell 21 = .ok (.ireturn, 1) := by decide +kernel
theorem dX2_nextCell_22 : decode cX2_nextCell 22 = .ok (.iload_n 1, 1) := by decide +kernel
theorem dX2_nextCell_23 : decode cX2_nextCell 23 = .ok (.bipush 16, 2) := by decide +kernel
theorem dX2_nextCell_25 : decode cX2_nextCell 25 = .ok (.irem, 1) := by decide +kernel
theorem dX2_nextCell_26 : decode cX2_nextCell 26 = .ok (.getstatic 43, 3) := by decide +kernel
theorem dX2_nextCell_29 : decode cX2_nextCell 29 = .ok (.iload_n 2, 1) := by decide +kernel
theorem dX2_nextCell_30 : decode cX2_nextCell 30 = .ok (.iaload, 1) := by decide +kernel
theorem dX2_nextCell_31 : decode cX2_nextCell 31 = .ok (.iadd, 1) := by decide +kernel
theorem dX2_nextCell_32 : decode cX2_nextCell 32 = .ok (.istore_n 3, 1) := by decide +kernel
theorem dX2_nextCell_33 : decode cX2_nextCell 33 = .ok (.iload_n 1, 1) := by decide +kernel
theorem dX2_nextCell_34 : decode cX2_nextCell 34 = .ok (.bipush 16, 2) := by decide +kernel
theorem dX2_nextCell_36 : decode cX2_nextCell 36 = .ok (.idiv, 1) := by decide +kernel
theorem dX2_nextCell_37 : decode cX2_nextCell 37 = .ok (.getstatic 47, 3) := by decide +kernel
theorem dX2_nextCell_40 : decode cX2_nextCell 40 = .ok (.iload_n 2, 1) := by decide +kernel
theorem dX2_nextCell_41 : decode cX2_nextCell 41 = .ok (.iaload, 1) := by decide +kernel
theorem dX2_nextCell_42 : decode cX2_nextCell 42 = .ok (.iadd, 1) := by decide +kernel
theorem dX2_nextCell_43 : decode cX2_nextCell 43 = .ok (.istore 4, 2) := by decide +kernel
theorem dX2_nextCell_45 : decode cX2_nextCell 45 = .ok (.iload_n 3, 1) := by decide +kernel
theorem dX2_nextCell_46 : decode cX2_nextCell 46 = .ok (.bipush 15, 2) := by decide +kernel
theorem dX2_nextCell_48 : decode cX2_nextCell 48 = .ok (.invokestatic 23, 3) := by decide +kernel
theorem dX2_nextCell_51 : decode cX2_nextCell 51 = .ok (.ifCond .ne 13, 3) := by decide +kernel
theorem dX2_nextCell_54 : decode cX2_nextCell 54 = .ok (.iload 4, 2) := by decide +kernel
theorem dX2_nextCell_56 : decode cX2_nextCell 56 = .ok (.bipush 9, 2) := by decide +kernel
theorem dX2_nextCell_58 : decode cX2_nextCell 58 = .ok (.invokestatic 23, 3) := by decide +kernel
theorem dX2_nextCell_61 : decode cX2_nextCell 61 = .ok (.ifCond .eq 6, 3) := by decide +kernel
theorem dX2_nextCell_64 : decode cX2_nextCell 64 = .ok (.bipush (-9), 2) := by decide +kernel
theorem dX2_nextCell_66 : decode cX2_nextCell 66 = .ok (.ireturn, 1) := by decide +kernel
theorem dX2_nextCell_67 : decode cX2_nextCell 67 = .ok (.bipush 16, 2) := by decide +kernel
theorem dX2_nextCell_69 : decode cX2_nextCell 69 = .ok (.iload 4, 2) := by decide +kernel
theorem dX2_nextCell_71 : decode cX2_nextCell 71 = .ok (.imul, 1) := by decide +kernel
theorem dX2_nextCell_72 : decode cX2_nextCell 72 = .ok (.iload_n 3, 1) := by decide +kernel
theorem dX2_nextCell_73 : decode cX2_nextCell 73 = .ok (.iadd, 1) := by decide +kernel
theorem dX2_nextCell_74 : decode cX2_nextCell 74 = .ok (.istore 5, 2) := by decide +kernel
theorem dX2_nextCell_76 : decode cX2_nextCell 76 = .ok (.aload_n 0, 1) := by decide +kernel
theorem dX2_nextCell_77 : decode cX2_nextCell 77 = .ok (.iload 5, 2) := by decide +kernel
theorem dX2_nextCell_79 : decode cX2_nextCell 79 = .ok (.invokevirtual 50, 3) := by decide +kernel
theorem dX2_nextCell_82 : decode cX2_nextCell 82 = .ok (.ifCond .eq 8, 3) := by decide +kernel
theorem dX2_nextCell_85 : decode cX2_nextCell 85 = .ok (.bipush (-9), 2) := by decide +kernel
theorem dX2_nextCell_87 : decode cX2_nextCell 87 = .ok (.goto 5, 3) := by decide +kernel
theorem dX2_nextCell_90 : decode cX2_nextCell 90 = .ok (.iload 5, 2) := by decide +kernel
theorem dX2_nextCell_92 : decode cX2_nextCell 92 = .ok (.ireturn, 1) := by decide +kernel
set_option maxRecDepth 20000 in
theorem ggX2_digestChart_X2_hasChart : GoodIn wsX2_digestChart wsX2_hasChart := goodIn_r _ [6, 7, 8, 9, 10, 16, 17, 18] rfl (by decide +kernel)
set_option maxRecDepth 20000 in
theorem gX2_digestChart_X2_hasChart : GoodIn wsX2_digestChart (wsV RX2 33 RX2 yX2_hasChart wsX2_hasChart) := goodIn_app (goodIn_of _ (by decide +kernel)) ggX2_digestChart_X2_hasChart
set_option maxRecDepth 20000 in
theorem ggX2_digestChart_X2_drawnAt : GoodIn wsX2_digestChart wsX2_drawnAt := goodIn_r _ [14, 15, 2, 3, 4, 5, 6, 7, 8, 9, 10, 16, 17, 18] rfl (by decide +kernel)
set_option maxRecDepth 20000 in
theorem gX2_digestChart_X2_drawnAt : GoodIn wsX2_digestChart (wsV RX2 55 RX2 yX2_drawnAt wsX2_drawnAt) := goodIn_app (goodIn_of _ (by decide +kernel)) ggX2_digestChart_X2_drawnAt
theorem dX2_digestChart_0 : decode cX2_digestChart 0 = .ok (.aload_n 0, 1) := by decide +kernel
theorem dX2_digestChart_1 : decode cX2_digestChart 1 = .ok (.iload_n 1, 1) := by decide +kernel
theorem dX2_digestChart_2 : decode cX2_digestChart 2 = .ok (.invokevirtual 33, 3) := by decide +kernel
theorem dX2_digestChart_5 : decode cX2_digestChart 5 = .ok (.ifCond .ne 11, 3) := by decide +kernel
theorem dX2_digestChart_8 : decode cX2_digestChart 8 = .ok (.ldc2_w 53, 3) := by decide +kernel
theorem dX2_digestChart_11 : decode cX2_digestChart 11 = .ok (.lload_n 2, 1) := by decide +kernel
theorem dX2_digestChart_12 : decode cX2_digestChart 12 = .ok (.lmul, 1) := by decide +kernel
theorem dX2_digestChart_13 : decode cX2_digestChart 13 = .ok (.lconst 1, 1) := by decide +kernel
theorem dX2_digestChart_14 : decode cX2_digestChart 14 = .ok (.lsub, 1) := by decide +kernel
theorem dX2_digestChart_15 : decode cX2_digestChart 15 = .ok (.lreturn, 1) := by decide +kernel
theorem dX2_digestChart_16 : decode cX2_digestChart 16 = .ok (.lload_n 2, 1) := by decide +kernel
theorem dX2_digestChart_17 : decode cX2_digestChart 17 = .ok (.lstore 4, 2) := by decide +kernel
theorem dX2_digestChart_19 : decode cX2_digestChart 19 = .ok (.iconst 0, 1) := by decide +kernel
theorem dX2_digestChart_20 : decode cX2_digestChart 20 = .ok (.istore 6, 2) := by decide +kernel
theorem dX2_digestChart_22 : decode cX2_digestChart 22 = .ok (.iload 6, 2) := by decide +kernel
theorem dX2_digestChart_24 : decode cX2_digestChart 24 = .ok (.sipush 160, 3) := by decide +kernel
theorem dX2_digestChart_27 : decode cX2_digestChart 27 = .ok (.if_icmp .ge 26, 3) := by decide +kernel
theorem dX2_digestChart_30 : decode cX2_digestChart 30 = .ok (.ldc2_w 53, 3) := by decide +kernel
theorem dX2_digestChart_33 : decode cX2_digestChart 33 = .ok (.lload 4, 2) := by decide +kernel
theorem dX2_digestChart_35 : decode cX2_digestChart 35 = .ok (.lmul, 1) := by decide +kernel
theorem dX2_digestChart_36 : decode cX2_digestChart 36 = .ok (.aload_n 0, 1) := by decide +kernel
theorem dX2_digestChart_37 : decode cX2_digestChart 37 = .ok (.iload_n 1, 1) := by decide +kernel
theorem dX2_digestChart_38 : decode cX2_digestChart 38 = .ok (.iload 6, 2) := by decide +kernel
theorem dX2_digestChart_40 : decode cX2_digestChart 40 = .ok (.invokevirtual 55, 3) := by decide +kernel
theorem dX2_digestChart_43 : decode cX2_digestChart 43 = .ok (.i2l, 1) := by decide +kernel
theorem dX2_digestChart_44 : decode cX2_digestChart 44 = .ok (.ladd, 1) := by decide +kernel
theorem dX2_digestChart_45 : decode cX2_digestChart 45 = .ok (.lstore 4, 2) := by decide +kernel
theorem dX2_digestChart_47 : decode cX2_digestChart 47 = .ok (.iinc 6 1, 3) := by decide +kernel
theorem dX2_digestChart_50 : decode cX2_digestChart 50 = .ok (.goto (-28), 3) := by decide +kernel
theorem dX2_digestChart_53 : decode cX2_digestChart 53 = .ok (.lload 4, 2) := by decide +kernel
theorem dX2_digestChart_55 : decode cX2_digestChart 55 = .ok (.lreturn, 1) := by decide +kernel
set_option maxRecDepth 20000 in
theorem ggX3_init_Jx4a65c_init_da8c8 : GoodIn wsX3_init wsJx4a65c_init_da8c8 := goodIn_r _ [23, 24, 25, 26, 27, 28, 29, 30, 31, 32, 33, 34, 35, 2, 3, 36, 37, 38] rfl (by decide +kernel)
set_option maxRecDepth 20000 in
theorem gX3_init_Jx4a65c_init_da8c8 : GoodIn wsX3_init (wsJx4a65c_init_da8c8) := ggX3_init_Jx4a65c_init_da8c8
theorem dX3_init_0 : decode cX3_init 0 = .ok (.aload_n 0, 1) := by decide +kernel
theorem dX3_init_1 : decode cX3_init 1 = .ok (.invokespecial 3, 3) := by decide +kernel
theorem dX3_init_4 : decode cX3_init 4 = .ok (.aload_n 0, 1) := by decide +kernel
theorem dX3_init_5 : decode cX3_init 5 = .ok (.new 9, 3) := by decide +kernel
theorem dX3_init_8 : decode cX3_init 8 = .ok (.dup, 1) := by decide +kernel
theorem dX3_init_9 : decode cX3_init 9 = .ok (.invokespecial 11, 3) := by decide +kernel
theorem dX3_init_12 : decode cX3_init 12 = .ok (.putfield 12, 3) := by decide +kernel
theorem dX3_init_15 : decode cX3_init 15 = .ok (.aload_n 0, 1) := by decide +kernel
theorem dX3_init_16 : decode cX3_init 16 = .ok (.new 9, 3) := by decide +kernel
theorem dX3_init_19 : decode cX3_init 19 = .ok (.dup, 1) := by decide +kernel
theorem dX3_init_20 : decode cX3_init 20 = .ok (.invokespecial 11, 3) := by decide +kernel
theorem dX3_init_23 : decode cX3_init 23 = .ok (.putfield 18, 3) := by decide +kernel
theorem dX3_init_26 : decode cX3_init 26 = .ok (.aload_n 0, 1) := by decide +kernel
theorem dX3_init_27 : decode cX3_init 27 = .ok (.iconst 0, 1) := by decide +kernel
theorem dX3_init_28 : decode cX3_init 28 = .ok (.putfield 21, 3) := by decide +kernel
theorem dX3_init_31 : decode cX3_init 31 = .ok (.aload_n 0, 1) := by decide +kernel
theorem dX3_init_32 : decode cX3_init 32 = .ok (.iconst 0, 1) := by decide +kernel
theorem dX3_init_33 : decode cX3_init 33 = .ok (.putfield 25, 3) := by decide +kernel
theorem dX3_init_36 : decode cX3_init 36 = .ok (.aload_n 0, 1) := by decide +kernel
theorem dX3_init_37 : decode cX3_init 37 = .ok (.iconst 0, 1) := by decide +kernel
theorem dX3_init_38 : decode cX3_init 38 = .ok (.putfield 28, 3) := by decide +kernel
theorem dX3_init_41 : decode cX3_init 41 = .ok (.aload_n 0, 1) := by decide +kernel
theorem dX3_init_42 : decode cX3_init 42 = .ok (.iconst 0, 1) := by decide +kernel
theorem dX3_init_43 : decode cX3_init 43 = .ok (.putfield 31, 3) := by decide +kernel
theorem dX3_init_46 : decode cX3_init 46 = .ok (.aload_n 0, 1) := by decide +kernel
theorem dX3_init_47 : decode cX3_init 47 = .ok (.bipush (-9), 2) := by decide +kernel
theorem dX3_init_49 : decode cX3_init 49 = .ok (.putfield 34, 3) := by decide +kernel
theorem dX3_init_52 : decode cX3_init 52 = .ok (.aload_n 0, 1) := by decide +kernel
theorem dX3_init_53 : decode cX3_init 53 = .ok (.bipush (-9), 2) := by decide +kernel
theorem dX3_init_55 : decode cX3_init 55 = .ok (.putfield 37, 3) := by decide +kernel
theorem dX3_init_58 : decode cX3_init 58 = .ok (.aload_n 0, 1) := by decide +kernel
theorem dX3_init_59 : decode cX3_init 59 = .ok (.iconst 0, 1) := by decide +kernel
theorem dX3_init_60 : decode cX3_init 60 = .ok (.putfield 40, 3) := by decide +kernel
theorem dX3_init_63 : decode cX3_init 63 = .ok (.aload_n 0, 1) := by decide +kernel
theorem dX3_init_64 : decode cX3_init 64 = .ok (.iconst 0, 1) := by decide +kernel
theorem dX3_init_65 : decode cX3_init 65 = .ok (.putfield 43, 3) := by decide +kernel
theorem dX3_init_68 : decode cX3_init 68 = .ok (.aload_n 0, 1) := by decide +kernel
theorem dX3_init_69 : decode cX3_init 69 = .ok (.iload_n 1, 1) := by decide +kernel
theorem dX3_init_70 : decode cX3_init 70 = .ok (.putfield 46, 3) := by decide +kernel
theorem dX3_init_73 : decode cX3_init 73 = .ok (.aload_n 0, 1) := by decide +kernel
theorem dX3_init_74 : decode cX3_init 74 = .ok (.iload_n 2, 1) := by decide +kernel
theorem dX3_init_75 : decode cX3_init 75 = .ok (.putfield 49, 3) := by decide +kernel
theorem dX3_init_78 : decode cX3_init 78 = .ok (.aload_n 0, 1) := by decide +kernel
theorem dX3_init_79 : decode cX3_init 79 = .ok (.iload_n 3, 1) := by decide +kernel
theorem dX3_init_80 : decode cX3_init 80 = .ok (.putfield 52, 3) := by decide +kernel
