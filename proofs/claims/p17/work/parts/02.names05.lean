set_option maxRecDepth 20000 in
theorem gX5_tear_X2_hasChart : GoodIn wsX5_tear (wsV RX5 72 RX2 yX2_hasChart wsX2_hasChart) := goodIn_app (goodIn_of _ (by decide +kernel)) ggX5_tear_X2_hasChart
set_option maxRecDepth 20000 in
theorem ggX5_tear_X5_found : GoodIn wsX5_tear wsX5_found := goodIn_r _ [15, 16, 17, 22, 23, 24, 25, 26, 27, 28, 29, 30, 31, 32, 33] rfl (by decide +kernel)
set_option maxRecDepth 20000 in
theorem gX5_tear_X5_found : GoodIn wsX5_tear (wsV RX5 79 RX5 yX5_found wsX5_found) := goodIn_app (goodIn_of _ (by decide +kernel)) ggX5_tear_X5_found
set_option maxRecDepth 20000 in
theorem ggX5_tear_X2_loseChart : GoodIn wsX5_tear wsX2_loseChart := goodIn_r _ [21, 11, 3, 4, 5, 34, 35, 36] rfl (by decide +kernel)
set_option maxRecDepth 20000 in
theorem gX5_tear_X2_loseChart : GoodIn wsX5_tear (wsV RX5 91 RX2 yX2_loseChart wsX2_loseChart) := goodIn_app (goodIn_of _ (by decide +kernel)) ggX5_tear_X2_loseChart
theorem dX5_tear_0 : decode cX5_tear 0 = .ok (.iload_n 1, 1) := by decide +kernel
theorem dX5_tear_1 : decode cX5_tear 1 = .ok (.bipush 11, 2) := by decide +kernel
theorem dX5_tear_3 : decode cX5_tear 3 = .ok (.invokestatic 60, 3) := by decide +kernel
theorem dX5_tear_6 : decode cX5_tear 6 = .ok (.ifCond .eq 5, 3) := by decide +kernel
theorem dX5_tear_9 : decode cX5_tear 9 = .ok (.iconst (-1), 1) := by decide +kernel
theorem dX5_tear_10 : decode cX5_tear 10 = .ok (.ireturn, 1) := by decide +kernel
theorem dX5_tear_11 : decode cX5_tear 11 = .ok (.aload_n 0, 1) := by decide +kernel
theorem dX5_tear_12 : decode cX5_tear 12 = .ok (.getfield 10, 3) := by decide +kernel
theorem dX5_tear_15 : decode cX5_tear 15 = .ok (.iload_n 1, 1) := by decide +kernel
theorem dX5_tear_16 : decode cX5_tear 16 = .ok (.invokevirtual 72, 3) := by decide +kernel
theorem dX5_tear_19 : decode cX5_tear 19 = .ok (.ifCond .ne 9, 3) := by decide +kernel
theorem dX5_tear_22 : decode cX5_tear 22 = .ok (.aload_n 0, 1) := by decide +kernel
theorem dX5_tear_23 : decode cX5_tear 23 = .ok (.iconst 1, 1) := by decide +kernel
theorem dX5_tear_24 : decode cX5_tear 24 = .ok (.invokevirtual 79, 3) := by decide +kernel
theorem dX5_tear_27 : decode cX5_tear 27 = .ok (.ireturn, 1) := by decide +kernel
theorem dX5_tear_28 : decode cX5_tear 28 = .ok (.aload_n 0, 1) := by decide +kernel
theorem dX5_tear_29 : decode cX5_tear 29 = .ok (.getfield 10, 3) := by decide +kernel
theorem dX5_tear_32 : decode cX5_tear 32 = .ok (.iload_n 1, 1) := by decide +kernel
theorem dX5_tear_33 : decode cX5_tear 33 = .ok (.invokevirtual 91, 3) := by decide +kernel
theorem dX5_tear_36 : decode cX5_tear 36 = .ok (.iconst 1, 1) := by decide +kernel
theorem dX5_tear_37 : decode cX5_tear 37 = .ok (.ireturn, 1) := by decide +kernel
set_option maxRecDepth 20000 in
theorem ggX5_copy_X5_outside : GoodIn wsX5_copy wsX5_outside := goodIn_r _ [5] rfl (by decide +kernel)
set_option maxRecDepth 20000 in
theorem gX5_copy_X5_outside : GoodIn wsX5_copy (va_wsS RX5 60 yX5_outside wsX5_outside) := goodIn_app (goodIn_of _ (by decide +kernel)) ggX5_copy_X5_outside
set_option maxRecDepth 20000 in
theorem ggX5_copy_X5_found : GoodIn wsX5_copy wsX5_found := goodIn_r _ [9, 10, 11, 28, 29, 30, 31, 32, 33, 34, 35, 36, 37, 38, 39] rfl (by decide +kernel)
set_option maxRecDepth 20000 in
theorem gX5_copy_X5_found : GoodIn wsX5_copy (wsV RX5 79 RX5 yX5_found wsX5_found) := goodIn_app (goodIn_of _ (by decide +kernel)) ggX5_copy_X5_found
set_option maxRecDepth 20000 in
theorem ggX5_copy_X2_hasChart : GoodIn wsX5_copy wsX2_hasChart := goodIn_r _ [16, 17, 3, 4, 5, 40, 41, 42] rfl (by decide +kernel)
set_option maxRecDepth 20000 in
theorem gX5_copy_X2_hasChart : GoodIn wsX5_copy (wsV RX5 72 RX2 yX2_hasChart wsX2_hasChart) := goodIn_app (goodIn_of _ (by decide +kernel)) ggX5_copy_X2_hasChart
set_option maxRecDepth 20000 in
theorem ggX5_copy_X2_copyChart : GoodIn wsX5_copy wsX2_copyChart := goodIn_r _ [21, 22, 23, 24, 25, 26, 27, 13, 14, 15, 16, 17, 3, 4, 5, 40, 41, 42] rfl (by decide +kernel)
set_option maxRecDepth 20000 in
theorem gX5_copy_X2_copyChart : GoodIn wsX5_copy (wsV RX5 94 RX2 yX2_copyChart wsX2_copyChart) := goodIn_app (goodIn_of _ (by decide +kernel)) ggX5_copy_X2_copyChart
theorem dX5_copy_0 : decode cX5_copy 0 = .ok (.iload_n 1, 1) := by decide +kernel
theorem dX5_copy_1 : decode cX5_copy 1 = .ok (.bipush 11, 2) := by decide +kernel
theorem dX5_copy_3 : decode cX5_copy 3 = .ok (.invokestatic 60, 3) := by decide +kernel
theorem dX5_copy_6 : decode cX5_copy 6 = .ok (.ifCond .ne 12, 3) := by decide +kernel
theorem dX5_copy_9 : decode cX5_copy 9 = .ok (.iload_n 3, 1) := by decide +kernel
theorem dX5_copy_10 : decode cX5_copy 10 = .ok (.bipush 11, 2) := by decide +kernel
theorem dX5_copy_12 : decode cX5_copy 12 = .ok (.invokestatic 60, 3) := by decide +kernel
theorem dX5_copy_15 : decode cX5_copy 15 = .ok (.ifCond .eq 5, 3) := by decide +kernel
theorem dX5_copy_18 : decode cX5_copy 18 = .ok (.iconst (-1), 1) := by decide +kernel
theorem dX5_copy_19 : decode cX5_copy 19 = .ok (.ireturn, 1) := by decide +kernel
theorem dX5_copy_20 : decode cX5_copy 20 = .ok (.iload 5, 2) := by decide +kernel
theorem dX5_copy_22 : decode cX5_copy 22 = .ok (.ifCond .ge 9, 3) := by decide +kernel
theorem dX5_copy_25 : decode cX5_copy 25 = .ok (.aload_n 0, 1) := by decide +kernel
theorem dX5_copy_26 : decode cX5_copy 26 = .ok (.iconst 5, 1) := by decide +kernel
theorem dX5_copy_27 : decode cX5_copy 27 = .ok (.invokevirtual 79, 3) := by decide +kernel
theorem dX5_copy_30 : decode cX5_copy 30 = .ok (.ireturn, 1) := by decide +kernel
theorem dX5_copy_31 : decode cX5_copy 31 = .ok (.aload_n 0, 1) := by decide +kernel
theorem dX5_copy_32 : decode cX5_copy 32 = .ok (.getfield 10, 3) := by decide +kernel
theorem dX5_copy_35 : decode cX5_copy 35 = .ok (.iload_n 1, 1) := by decide +kernel
theorem dX5_copy_36 : decode cX5_copy 36 = .ok (.invokevirtual 72, 3) := by decide +kernel
theorem dX5_copy_39 : decode cX5_copy 39 = .ok (.ifCond .eq 14, 3) := by decide +kernel
theorem dX5_copy_42 : decode cX5_copy 42 = .ok (.aload_n 0, 1) := by decide +kernel
theorem dX5_copy_43 : decode cX5_copy 43 = .ok (.getfield 10, 3) := by decide +kernel
theorem dX5_copy_46 : decode cX5_copy 46 = .ok (.iload_n 3, 1) := by decide +kernel
theorem dX5_copy_47 : decode cX5_copy 47 = .ok (.invokevirtual 72, 3) := by decide +kernel
theorem dX5_copy_50 : decode cX5_copy 50 = .ok (.ifCond .ne 9, 3) := by decide +kernel
theorem dX5_copy_53 : decode cX5_copy 53 = .ok (.aload_n 0, 1) := by decide +kernel
theorem dX5_copy_54 : decode cX5_copy 54 = .ok (.iconst 1, 1) := by decide +kernel
theorem dX5_copy_55 : decode cX5_copy 55 = .ok (.invokevirtual 79, 3) := by decide +kernel
theorem dX5_copy_58 : decode cX5_copy 58 = .ok (.ireturn, 1) := by decide +kernel
theorem dX5_copy_59 : decode cX5_copy 59 = .ok (.iload_n 2, 1) := by decide +kernel
theorem dX5_copy_60 : decode cX5_copy 60 = .ok (.sipush 160, 3) := by decide +kernel
theorem dX5_copy_63 : decode cX5_copy 63 = .ok (.iload 5, 2) := by decide +kernel
theorem dX5_copy_65 : decode cX5_copy 65 = .ok (.isub, 1) := by decide +kernel
theorem dX5_copy_66 : decode cX5_copy 66 = .ok (.invokestatic 60, 3) := by decide +kernel
theorem dX5_copy_69 : decode cX5_copy 69 = .ok (.ifCond .ne 17, 3) := by decide +kernel
theorem dX5_copy_72 : decode cX5_copy 72 = .ok (.iload 4, 2) := by decide +kernel
theorem dX5_copy_74 : decode cX5_copy 74 = .ok (.sipush 160, 3) := by decide +kernel
theorem dX5_copy_77 : decode cX5_copy 77 = .ok (.iload 5, 2) := by decide +kernel
theorem dX5_copy_79 : decode cX5_copy 79 = .ok (.isub, 1) := by decide +kernel
theorem dX5_copy_80 : decode cX5_copy 80 = .ok (.invokestatic 60, 3) := by decide +kernel
theorem dX5_copy_83 : decode cX5_copy 83 = .ok (.ifCond .eq 9, 3) := by decide +kernel
theorem dX5_copy_86 : decode cX5_copy 86 = .ok (.aload_n 0, 1) := by decide +kernel
theorem dX5_copy_87 : decode cX5_copy 87 = .ok (.iconst 2, 1) := by decide +kernel
theorem dX5_copy_88 : decode cX5_copy 88 = .ok (.invokevirtual 79, 3) := by decide +kernel
theorem dX5_copy_91 : decode cX5_copy 91 = .ok (.ireturn, 1) := by decide +kernel
theorem dX5_copy_92 : decode cX5_copy 92 = .ok (.aload_n 0, 1) := by decide +kernel
theorem dX5_copy_93 : decode cX5_copy 93 = .ok (.getfield 10, 3) := by decide +kernel
theorem dX5_copy_96 : decode cX5_copy 96 = .ok (.iload_n 1, 1) := by decide +kernel
theorem dX5_copy_97 : decode cX5_copy 97 = .ok (.iload_n 2, 1) := by decide +kernel
theorem dX5_copy_98 : decode cX5_copy 98 = .ok (.iload_n 3, 1) := by decide +kernel
theorem dX5_copy_99 : decode cX5_copy 99 = .ok (.iload 4, 2) := by decide +kernel
theorem dX5_copy_101 : decode cX5_copy 101 = .ok (.iload 5, 2) := by decide +kernel
theorem dX5_copy_103 : decode cX5_copy 103 = .ok (.invokevirtual 94, 3) := by decide +kernel
theorem dX5_copy_106 : decode cX5_copy 106 = .ok (.iconst 1, 1) := by decide +kernel
theorem dX5_copy_107 : decode cX5_copy 107 = .ok (.ireturn, 1) := by decide +kernel
set_option maxRecDepth 20000 in
theorem ggX5_mean_X5_outside : GoodIn wsX5_mean wsX5_outside := goodIn_r _ [5] rfl (by decide +kernel)
set_option maxRecDepth 20000 in
theorem gX5_mean_X5_outside : GoodIn wsX5_mean (va_wsS RX5 60 yX5_outside wsX5_outside) := goodIn_app (goodIn_of _ (by decide +kernel)) ggX5_mean_X5_outside
set_option maxRecDepth 20000 in
theorem ggX5_mean_X2_hasChart : GoodIn wsX5_mean wsX2_hasChart := goodIn_r _ [10, 11, 3, 4, 5, 38, 39, 40] rfl (by decide +kernel)
set_option maxRecDepth 20000 in
theorem gX5_mean_X2_hasChart : GoodIn wsX5_mean (wsV RX5 72 RX2 yX2_hasChart wsX2_hasChart) := goodIn_app (goodIn_of _ (by decide +kernel)) ggX5_mean_X2_hasChart
set_option maxRecDepth 20000 in
theorem ggX5_mean_X5_found : GoodIn wsX5_mean wsX5_found := goodIn_r _ [15, 16, 17, 26, 27, 28, 29, 30, 31, 32, 33, 34, 35, 36, 37] rfl (by decide +kernel)
set_option maxRecDepth 20000 in
theorem gX5_mean_X5_found : GoodIn wsX5_mean (wsV RX5 79 RX5 yX5_found wsX5_found) := goodIn_app (goodIn_of _ (by decide +kernel)) ggX5_mean_X5_found
set_option maxRecDepth 20000 in
theorem ggX5_mean_X2_windIn : GoodIn wsX5_mean wsX2_windIn := goodIn_r _ [21, 11, 22, 3, 4, 5, 38, 39, 40] rfl (by decide +kernel)
set_option maxRecDepth 20000 in
theorem gX5_mean_X2_windIn : GoodIn wsX5_mean (wsV RX5 98 RX2 yX2_windIn wsX2_windIn) := goodIn_app (goodIn_of _ (by decide +kernel)) ggX5_mean_X2_windIn
set_option maxRecDepth 20000 in
theorem ggX5_mean_X5_strengthOf : GoodIn wsX5_mean wsX5_strengthOf := goodIn_r _ [25] rfl (by decide +kernel)
set_option maxRecDepth 20000 in
theorem gX5_mean_X5_strengthOf : GoodIn wsX5_mean (va_wsS RX5 101 yX5_strengthOf wsX5_strengthOf) := goodIn_app (goodIn_of _ (by decide +kernel)) ggX5_mean_X5_strengthOf
theorem dX5_mean_0 : decode cX5_mean 0 = .ok (.iload_n 1, 1) := by decide +kernel
theorem dX5_mean_1 : decode cX5_mean 1 = .ok (.bipush 11, 2) := by decide +kernel
theorem dX5_mean_3 : decode cX5_mean 3 = .ok (.invokestatic 60, 3) := by decide +kernel
theorem dX5_mean_6 : decode cX5_mean 6 = .ok (.ifCond .eq 5, 3) := by decide +kernel
theorem dX5_mean_9 : decode cX5_mean 9 = .ok (.iconst (-1), 1) := by decide +kernel
theorem dX5_mean_10 : decode cX5_mean 10 = .ok (.ireturn, 1) := by decide +kernel
theorem dX5_mean_11 : decode cX5_mean 11 = .ok (.aload_n 0, 1) := by decide +kernel
theorem dX5_mean_12 : decode cX5_mean 12 = .ok (.getfield 10, 3) := by decide +kernel
theorem dX5_mean_15 : decode cX5_mean 15 = .ok (.iload_n 1, 1) := by decide +kernel
theorem dX5_mean_16 : decode cX5_mean 16 = .ok (.invokevirtual 72, 3) := by decide +kernel
theorem dX5_mean_19 : decode cX5_mean 19 = .ok (.ifCond .ne 9, 3) := by decide +kernel
theorem dX5_mean_22 : decode cX5_mean 22 = .ok (.aload_n 0, 1) := by decide +kernel
theorem dX5_mean_23 : decode cX5_mean 23 = .ok (.iconst 1, 1) := by decide +kernel
theorem dX5_mean_24 : decode cX5_mean 24 = .ok (.invokevirtual 79, 3) := by decide +kernel
theorem dX5_mean_27 : decode cX5_mean 27 = .ok (.ireturn, 1) := by decide +kernel
theorem dX5_mean_28 : decode cX5_mean 28 = .ok (.iconst 0, 1) := by decide +kernel
theorem dX5_mean_29 : decode cX5_mean 29 = .ok (.istore_n 2, 1) := by decide +kernel
theorem dX5_mean_30 : decode cX5_mean 30 = .ok (.iconst 0, 1) := by decide +kernel
theorem dX5_mean_31 : decode cX5_mean 31 = .ok (.istore_n 3, 1) := by decide +kernel
theorem dX5_mean_32 : decode cX5_mean 32 = .ok (.iload_n 3, 1) := by decide +kernel
theorem dX5_mean_33 : decode cX5_mean 33 = .ok (.sipush 160, 3) := by decide +kernel
theorem dX5_mean_36 : decode cX5_mean 36 = .ok (.if_icmp .ge 24, 3) := by decide +kernel
theorem dX5_mean_39 : decode cX5_mean 39 = .ok (.iload_n 2, 1) := by decide +kernel
theorem dX5_mean_40 : decode cX5_mean 40 = .ok (.aload_n 0, 1) := by decide +kernel
theorem dX5_mean_41 : decode cX5_mean 41 = .ok (.getfield 10, 3) := by decide +kernel
theorem dX5_mean_44 : decode cX5_mean 44 = .ok (.iload_n 1, 1) := by decide +kernel
theorem dX5_mean_45 : decode cX5_mean 45 = .ok (.iload_n 3, 1) := by decide +kernel
theorem dX5_mean_46 : decode cX5_mean 46 = .ok (.invokevirtual 98, 3) := by decide +kernel
theorem dX5_mean_49 : decode cX5_mean 49 = .ok (.invokestatic 101, 3) := by decide +kernel
theorem dX5_mean_52 : decode cX5_mean 52 = .ok (.iadd, 1) := by decide +kernel
theorem dX5_mean_53 : decode cX5_mean 53 = .ok (.istore_n 2, 1) := by decide +kernel
theorem dX5_mean_54 : decode cX5_mean 54 = .ok (.iinc 3 1, 3) := by decide +kernel
theorem dX5_mean_57 : decode cX5_mean 57 = .ok (.goto (-25), 3) := by decide +kernel
theorem dX5_mean_60 : decode cX5_mean 60 = .ok (.iload_n 2, 1) := by decide +kernel
theorem dX5_mean_61 : decode cX5_mean 61 = .ok (.sipush 160, 3) := by decide +kernel
theorem dX5_mean_64 : decode cX5_mean 64 = .ok (.idiv, 1) := by decide +kernel
theorem dX5_mean_65 : decode cX5_mean 65 = .ok (.ireturn, 1) := by decide +kernel
set_option maxRecDepth 20000 in
theorem ggX5_ship_X5_outside : GoodIn wsX5_ship wsX5_outside := goodIn_r _ [9] rfl (by decide +kernel)
set_option maxRecDepth 20000 in
theorem gX5_ship_X5_outside : GoodIn wsX5_ship (va_wsS RX5 60 yX5_outside wsX5_outside) := goodIn_app (goodIn_of _ (by decide +kernel)) ggX5_ship_X5_outside
set_option maxRecDepth 20000 in
theorem ggX5_ship_X5_isNoWater : GoodIn wsX5_ship wsX5_isNoWater := goodIn_r _ [13, 14, 6, 7, 8, 9, 15, 16, 17, 18, 19, 20, 116, 117, 118, 119, 120, 121, 122, 123, 124, 125, 126, 127, 142, 143, 144] rfl (by decide +kernel)
set_option maxRecDepth 20000 in
theorem gX5_ship_X5_isNoWater : GoodIn wsX5_ship (wsV RX5 104 RX5 yX5_isNoWater wsX5_isNoWater) := goodIn_app (goodIn_of _ (by decide +kernel)) ggX5_ship_X5_isNoWater
set_option maxRecDepth 20000 in
theorem ggX5_ship_Jx4a65c_size_8abf5 : GoodIn wsX5_ship wsJx4a65c_size_8abf5 := goodIn_r _ [25, 26, 145, 146, 147] rfl (by decide +kernel)
set_option maxRecDepth 20000 in
theorem gX5_ship_Jx4a65c_size_8abf5_f107Jx4a65c : GoodIn wsX5_ship (va_wsF RX5 107 RJx4a65c ⟨"java/util/List", "size", "()I"⟩ yJx4a65c_size_8abf5 wsJx4a65c_size_8abf5) := goodIn_app (goodIn_of _ (by decide +kernel)) ggX5_ship_Jx4a65c_size_8abf5
set_option maxRecDepth 20000 in
theorem ggX5_ship_X3_init : GoodIn wsX5_ship wsX3_init := goodIn_r _ [29, 30, 31, 32, 33, 34, 24, 35, 36, 37, 38, 39, 40, 41, 42, 43, 44, 45, 46, 47, 48, 49, 50, 51, 52, 53, 54, 55, 56, 57, 58, 59, 60, 61, 62, 63, 145, 146, 147, 128, 129, 130, 131, 132, 133, 134, 135, 136, 137, 138, 139, 140, 141] rfl (by decide +kernel)
set_option maxRecDepth 20000 in
theorem gX5_ship_X3_init : GoodIn wsX5_ship (wsX3_init) := ggX5_ship_X3_init
set_option maxRecDepth 20000 in
theorem ggX5_ship_Jx4a65c_add_9ea2d : GoodIn wsX5_ship wsJx4a65c_add_9ea2d := goodIn_r _ [67, 68, 69, 53, 26, 70, 71, 72, 24, 73, 74, 75, 76, 77, 78, 79, 80, 81, 52, 82, 83, 84, 85, 86, 87, 88, 89, 90, 91, 92, 93, 94, 95, 96, 97, 98, 99, 100, 101, 102, 103, 104, 105, 106, 107, 108, 109, 110, 111, 112, 113, 114, 115, 145, 146, 147] rfl (by decide +kernel)
set_option maxRecDepth 20000 in
theorem gX5_ship_Jx4a65c_add_9ea2d_f118Jx4a65c : GoodIn wsX5_ship (va_wsF RX5 118 RJx4a65c ⟨"java/util/List", "add", "(Ljava/lang/Object;)Z"⟩ yJx4a65c_add_9ea2d wsJx4a65c_add_9ea2d) := goodIn_app (goodIn_of _ (by decide +kernel)) ggX5_ship_Jx4a65c_add_9ea2d
theorem dX5_ship_0 : decode cX5_ship 0 = .ok (.iload_n 1, 1) := by decide +kernel
theorem dX5_ship_1 : decode cX5_ship 1 = .ok (.iconst 3, 1) := by decide +kernel
theorem dX5_ship_2 : decode cX5_ship 2 = .ok (.invokestatic 60, 3) := by decide +kernel
theorem dX5_ship_5 : decode cX5_ship 5 = .ok (.ifCond .ne 21, 3) := by decide +kernel
theorem dX5_ship_8 : decode cX5_ship 8 = .ok (.aload_n 0, 1) := by decide +kernel
theorem dX5_ship_9 : decode cX5_ship 9 = .ok (.iload_n 2, 1) := by decide +kernel
theorem dX5_ship_10 : decode cX5_ship 10 = .ok (.invokevirtual 104, 3) := by decide +kernel
theorem dX5_ship_13 : decode cX5_ship 13 = .ok (.ifCond .ne 13, 3) := by decide +kernel
theorem dX5_ship_16 : decode cX5_ship 16 = .ok (.iload_n 3, 1) := by decide +kernel
theorem dX5_ship_17 : decode cX5_ship 17 = .ok (.sipush 20000, 3) := by decide +kernel
theorem dX5_ship_20 : decode cX5_ship 20 = .ok (.invokestatic 60, 3) := by decide +kernel
theorem dX5_ship_23 : decode cX5_ship 23 = .ok (.ifCond .eq 5, 3) := by decide +kernel
theorem dX5_ship_26 : decode cX5_ship 26 = .ok (.iconst (-1), 1) := by decide +kernel
theorem dX5_ship_27 : decode cX5_ship 27 = .ok (.ireturn, 1) := by decide +kernel
theorem dX5_ship_28 : decode cX5_ship 28 = .ok (.aload_n 0, 1) := by decide +kernel
theorem dX5_ship_29 : decode cX5_ship 29 = .ok (.getfield 26, 3) := by decide +kernel
theorem dX5_ship_32 : decode cX5_ship 32 = .ok (.invokeinterface 107 1, 5) := by decide +kernel
theorem dX5_ship_37 : decode cX5_ship 37 = .ok (.bipush 8, 2) := by decide +kernel
theorem dX5_ship_39 : decode cX5_ship 39 = .ok (.if_icmp .lt 6, 3) := by decide +kernel
theorem dX5_ship_42 : decode cX5_ship 42 = .ok (.bipush (-2), 2) := by decide +kernel
theorem dX5_ship_44 : decode cX5_ship 44 = .ok (.ireturn, 1) := by decide +kernel
theorem dX5_ship_45 : decode cX5_ship 45 = .ok (.aload_n 0, 1) := by decide +kernel
theorem dX5_ship_46 : decode cX5_ship 46 = .ok (.getfield 38, 3) := by decide +kernel
theorem dX5_ship_49 : decode cX5_ship 49 = .ok (.ifCond .eq 6, 3) := by decide +kernel
theorem dX5_ship_52 : decode cX5_ship 52 = .ok (.bipush (-4), 2) := by decide +kernel
theorem dX5_ship_54 : decode cX5_ship 54 = .ok (.ireturn, 1) := by decide +kernel
theorem dX5_ship_55 : decode cX5_ship 55 = .ok (.aload_n 0, 1) := by decide +kernel
theorem dX5_ship_56 : decode cX5_ship 56 = .ok (.getfield 26, 3) := by decide +kernel
theorem dX5_ship_59 : decode cX5_ship 59 = .ok (.invokeinterface 107 1, 5) := by decide +kernel
theorem dX5_ship_64 : decode cX5_ship 64 = .ok (.istore 4, 2) := by decide +kernel
theorem dX5_ship_66 : decode cX5_ship 66 = .ok (.aload_n 0, 1) := by decide +kernel
theorem dX5_ship_67 : decode cX5_ship 67 = .ok (.getfield 26, 3) := by decide +kernel
theorem dX5_ship_70 : decode cX5_ship 70 = .ok (.new 113, 3) := by decide +kernel
theorem dX5_ship_73 : decode cX5_ship 73 = .ok (.dup, 1) := by decide +kernel
theorem dX5_ship_74 : decode cX5_ship 74 = .ok (.iload 4, 2) := by decide +kernel
theorem dX5_ship_76 : decode cX5_ship 76 = .ok (.iload_n 1, 1) := by decide +kernel
theorem dX5_ship_77 : decode cX5_ship 77 = .ok (.iload_n 2, 1) := by decide +kernel
theorem dX5_ship_78 : decode cX5_ship 78 = .ok (.iload_n 3, 1) := by decide +kernel
theorem dX5_ship_79 : decode cX5_ship 79 = .ok (.invokespecial 115, 3) := by decide +kernel
theorem dX5_ship_82 : decode cX5_ship 82 = .ok (.invokeinterface 118 2, 5) := by decide +kernel
theorem dX5_ship_87 : decode cX5_ship 87 = .ok (.pop, 1) := by decide +kernel
theorem dX5_ship_88 : decode cX5_ship 88 = .ok (.iload 4, 2) := by decide +kernel
theorem dX5_ship_90 : decode cX5_ship 90 = .ok (.ireturn, 1) := by decide +kernel
set_option maxRecDepth 20000 in
theorem ggX5_foul_X5_shipOf : GoodIn wsX5_foul wsX5_shipOf := goodIn_r _ [6, 7, 8, 9, 10, 11, 12, 13, 14, 15, 16, 17, 18, 19, 20, 21, 22, 23, 24, 25, 26, 27, 28, 29, 30, 31, 49, 50, 51, 52, 53, 54, 55, 56, 57, 58, 59, 60, 61, 62, 63] rfl (by decide +kernel)
set_option maxRecDepth 20000 in
theorem gX5_foul_X5_shipOf : GoodIn wsX5_foul (wsV RX5 122 RX5 yX5_shipOf wsX5_shipOf) := goodIn_app (goodIn_of _ (by decide +kernel)) ggX5_foul_X5_shipOf
set_option maxRecDepth 20000 in
theorem ggX5_foul_X5_outside : GoodIn wsX5_foul wsX5_outside := goodIn_r _ [34] rfl (by decide +kernel)
set_option maxRecDepth 20000 in
theorem gX5_foul_X5_outside : GoodIn wsX5_foul (va_wsS RX5 60 yX5_outside wsX5_outside) := goodIn_app (goodIn_of _ (by decide +kernel)) ggX5_foul_X5_outside
theorem dX5_foul_0 : decode cX5_foul 0 = .ok (.aload_n 0, 1) := by decide +kernel
theorem dX5_foul_1 : decode cX5_foul 1 = .ok (.iload_n 1, 1) := by decide +kernel
theorem dX5_foul_2 : decode cX5_foul 2 = .ok (.invokevirtual 122, 3) := by decide +kernel
theorem dX5_foul_5 : decode cX5_foul 5 = .ok (.astore_n 3, 1) := by decide +kernel
theorem dX5_foul_6 : decode cX5_foul 6 = .ok (.aload_n 3, 1) := by decide +kernel
theorem dX5_foul_7 : decode cX5_foul 7 = .ok (.ifnull 12, 3) := by decide +kernel
theorem dX5_foul_10 : decode cX5_foul 10 = .ok (.iload_n 2, 1) := by decide +kernel
theorem dX5_foul_11 : decode cX5_foul 11 = .ok (.bipush 9, 2) := by decide +kernel
theorem dX5_foul_13 : decode cX5_foul 13 = .ok (.invokestatic 60, 3) := by decide +kernel
theorem dX5_foul_16 : decode cX5_foul 16 = .ok (.ifCond .eq 5, 3) := by decide +kernel
theorem dX5_foul_19 : decode cX5_foul 19 = .ok (.iconst (-1), 1) := by decide +kernel
theorem dX5_foul_20 : decode cX5_foul 20 = .ok (.ireturn, 1) := by decide +kernel
theorem dX5_foul_21 : decode cX5_foul 21 = .ok (.aload_n 3, 1) := by decide +kernel
theorem dX5_foul_22 : decode cX5_foul 22 = .ok (.getfield 126, 3) := by decide +kernel
theorem dX5_foul_25 : decode cX5_foul 25 = .ok (.istore 4, 2) := by decide +kernel
theorem dX5_foul_27 : decode cX5_foul 27 = .ok (.aload_n 3, 1) := by decide +kernel
theorem dX5_foul_28 : decode cX5_foul 28 = .ok (.iload_n 2, 1) := by decide +kernel
theorem dX5_foul_29 : decode cX5_foul 29 = .ok (.putfield 126, 3) := by decide +kernel
theorem dX5_foul_32 : decode cX5_foul 32 = .ok (.iload 4, 2) := by decide +kernel
theorem dX5_foul_34 : decode cX5_foul 34 = .ok (.ireturn, 1) := by decide +kernel
set_option maxRecDepth 20000 in
theorem ggX5_told_X5_shipOf : GoodIn wsX5_told wsX5_shipOf := goodIn_r _ [12, 13, 14, 15, 16, 17, 18, 19, 20, 21, 22, 23, 24, 25, 26, 27, 28, 29, 30, 31, 32, 33, 34, 35, 36, 37, 52, 53, 54, 55, 56, 57, 58, 59, 60, 61, 62, 63, 64, 65, 66] rfl (by decide +kernel)
set_option maxRecDepth 20000 in
theorem gX5_told_X5_shipOf : GoodIn wsX5_told (wsV RX5 122 RX5 yX5_shipOf wsX5_shipOf) := goodIn_app (goodIn_of _ (by decide +kernel)) ggX5_told_X5_shipOf
theorem dX5_told_0 : decode cX5_told 0 = .ok (.aload_n 0, 1) := by decide +kernel
theorem dX5_told_1 : decode cX5_told 1 = .ok (.iload_n 1, 1) := by decide +kernel
theorem dX5_told_2 : decode cX5_told 2 = .ok (.invokevirtual 122, 3) := by decide +kernel
theorem dX5_told_5 : decode cX5_told 5 = .ok (.astore_n 3, 1) := by decide +kernel
theorem dX5_told_6 : decode cX5_told 6 = .ok (.aload_n 3, 1) := by decide +kernel
theorem dX5_told_7 : decode cX5_told 7 = .ok (.ifnonnull 5, 3) := by decide +kernel
theorem dX5_told_10 : decode cX5_told 10 = .ok (.iconst (-1), 1) := by decide +kernel
theorem dX5_told_11 : decode cX5_told 11 = .ok (.ireturn, 1) := by decide +kernel
theorem dX5_told_12 : decode cX5_told 12 = .ok (.iload_n 2, 1) := by decide +kernel
theorem dX5_told_13 : decode cX5_told 13 = .ok (.tableswitch 78 0 6 #[43, 48, 53, 58, 63, 68, 73], 43) := by decide +kernel
theorem dX5_told_56 : decode cX5_told 56 = .ok (.aload_n 3, 1) := by decide +kernel
theorem dX5_told_57 : decode cX5_told 57 = .ok (.getfield 129, 3) := by decide +kernel
theorem dX5_told_60 : decode cX5_told 60 = .ok (.ireturn, 1) := by decide +kernel
theorem dX5_told_61 : decode cX5_told 61 = .ok (.aload_n 3, 1) := by decide +kernel
theorem dX5_told_62 : decode cX5_told 62 = .ok (.getfield 132, 3) := by decide +kernel
theorem dX5_told_65 : decode cX5_told 65 = .ok (.ireturn, 1) := by decide +kernel
theorem dX5_told_66 : decode cX5_told 66 = .ok (.aload_n 3, 1) := by decide +kernel
theorem dX5_told_67 : decode cX5_told 67 = .ok (.getfield 135, 3) := by decide +kernel
theorem dX5_told_70 : decode cX5_told 70 = .ok (.ireturn, 1) := by decide +kernel
theorem dX5_told_71 : decode cX5_told 71 = .ok (.aload_n 3, 1) := by decide +kernel
theorem dX5_told_72 : decode cX5_told 72 = .ok (.getfield 138, 3) := by decide +kernel
theorem dX5_told_75 : decode cX5_told 75 = .ok (.ireturn, 1) := by decide +kernel
theorem dX5_told_76 : decode cX5_told 76 = .ok (.aload_n 3, 1) := by decide +kernel
theorem dX5_told_77 : decode cX5_told 77 = .ok (.getfield 141, 3) := by decide +kernel
theorem dX5_told_80 : decode cX5_told 80 = .ok (.ireturn, 1) := by decide +kernel
theorem dX5_told_81 : decode cX5_told 81 = .ok (.aload_n 3, 1) := by decide +kernel
theorem dX5_told_82 : decode cX5_told 82 = .ok (.getfield 144, 3) := by decide +kernel
theorem dX5_told_85 : decode cX5_told 85 = .ok (.ireturn, 1) := by decide +kernel
theorem dX5_told_86 : decode cX5_told 86 = .ok (.aload_n 3, 1) := by decide +kernel
theorem dX5_told_87 : decode cX5_told 87 = .ok (.getfield 147, 3) := by decide +kernel
theorem dX5_told_90 : decode cX5_told 90 = .ok (.ireturn, 1) := by decide +kernel
theorem dX5_told_91 : decode cX5_told 91 = .ok (.iconst (-1), 1) := by decide +kernel
theorem dX5_told_92 : decode cX5_told 92 = .ok (.ireturn, 1) := by decide +kernel
set_option maxRecDepth 20000 in
theorem ggX5_mark_X5_shipOf : GoodIn wsX5_mark wsX5_shipOf := goodIn_r _ [8, 9, 10, 11, 12, 13, 14, 15, 16, 17, 18, 19, 20, 21, 22, 23, 24, 25, 26, 27, 28, 29, 30, 31, 32, 33, 87, 88, 89, 90, 91, 92, 93, 94, 95, 96, 97, 98, 99, 100, 101] rfl (by decide +kernel)
set_option maxRecDepth 20000 in
theorem gX5_mark_X5_shipOf : GoodIn wsX5_mark (wsV RX5 122 RX5 yX5_shipOf wsX5_shipOf) := goodIn_app (goodIn_of _ (by decide +kernel)) ggX5_mark_X5_shipOf
set_option maxRecDepth 20000 in
theorem ggX5_mark_X3_isOf : GoodIn wsX5_mark wsX3_isOf := goodIn_r _ [38, 39, 73, 74, 75, 76, 77, 78, 79, 80, 81, 82, 83, 84, 85, 86] rfl (by decide +kernel)
set_option maxRecDepth 20000 in
theorem gX5_mark_X3_isOf : GoodIn wsX5_mark (wsV RX5 150 RX3 yX3_isOf wsX3_isOf) := goodIn_app (goodIn_of _ (by decide +kernel)) ggX5_mark_X3_isOf
set_option maxRecDepth 20000 in
theorem ggX5_mark_X5_found : GoodIn wsX5_mark wsX5_found := goodIn_r _ [43, 44, 45, 87, 88, 89, 90, 91, 92, 93, 94, 95, 96, 97, 98] rfl (by decide +kernel)
set_option maxRecDepth 20000 in
theorem gX5_mark_X5_found : GoodIn wsX5_mark (wsV RX5 79 RX5 yX5_found wsX5_found) := goodIn_app (goodIn_of _ (by decide +kernel)) ggX5_mark_X5_found
set_option maxRecDepth 20000 in
theorem ggX5_mark_Jx4a65c_size_8abf5 : GoodIn wsX5_mark wsJx4a65c_size_8abf5 := goodIn_r _ [15, 16, 99, 100, 101] rfl (by decide +kernel)
set_option maxRecDepth 20000 in
theorem gX5_mark_Jx4a65c_size_8abf5_f107Jx4a65c : GoodIn wsX5_mark (va_wsF RX5 107 RJx4a65c ⟨"java/util/List", "size", "()I"⟩ yJx4a65c_size_8abf5 wsJx4a65c_size_8abf5) := goodIn_app (goodIn_of _ (by decide +kernel)) ggX5_mark_Jx4a65c_size_8abf5
set_option maxRecDepth 20000 in
theorem ggX5_mark_X3_speedIn : GoodIn wsX5_mark wsX3_speedIn := goodIn_r _ [49, 39, 50, 51, 52, 53, 54, 55, 7, 56, 57, 58, 59, 60, 61, 62, 63, 64, 65, 66, 67, 37, 68, 69, 70, 71, 72, 73, 74, 75, 76, 77, 78, 79, 80, 81, 82, 83, 84, 85, 86] rfl (by decide +kernel)
set_option maxRecDepth 20000 in
theorem gX5_mark_X3_speedIn : GoodIn wsX5_mark (wsV RX5 156 RX3 yX3_speedIn wsX3_speedIn) := goodIn_app (goodIn_of _ (by decide +kernel)) ggX5_mark_X3_speedIn
theorem dX5_mark_0 : decode cX5_mark 0 = .ok (.aload_n 0, 1) := by decide +kernel
theorem dX5_mark_1 : decode cX5_mark 1 = .ok (.iload_n 1, 1) := by decide +kernel
theorem dX5_mark_2 : decode cX5_mark 2 = .ok (.invokevirtual 122, 3) := by decide +kernel
theorem dX5_mark_5 : decode cX5_mark 5 = .ok (.astore_n 3, 1) := by decide +kernel
theorem dX5_mark_6 : decode cX5_mark 6 = .ok (.aload_n 3, 1) := by decide +kernel
theorem dX5_mark_7 : decode cX5_mark 7 = .ok (.ifnull 13, 3) := by decide +kernel
theorem dX5_mark_10 : decode cX5_mark 10 = .ok (.iload_n 2, 1) := by decide +kernel
theorem dX5_mark_11 : decode cX5_mark 11 = .ok (.iconst 1, 1) := by decide +kernel
theorem dX5_mark_12 : decode cX5_mark 12 = .ok (.if_icmp .lt 8, 3) := by decide +kernel
theorem dX5_mark_15 : decode cX5_mark 15 = .ok (.iload_n 2, 1) := by decide +kernel
theorem dX5_mark_16 : decode cX5_mark 16 = .ok (.iconst 3, 1) := by decide +kernel
theorem dX5_mark_17 : decode cX5_mark 17 = .ok (.if_icmp .le 5, 3) := by decide +kernel
theorem dX5_mark_20 : decode cX5_mark 20 = .ok (.iconst (-1), 1) := by decide +kernel
theorem dX5_mark_21 : decode cX5_mark 21 = .ok (.ireturn, 1) := by decide +kernel
theorem dX5_mark_22 : decode cX5_mark 22 = .ok (.aload_n 3, 1) := by decide +kernel
theorem dX5_mark_23 : decode cX5_mark 23 = .ok (.iload_n 2, 1) := by decide +kernel
theorem dX5_mark_24 : decode cX5_mark 24 = .ok (.invokevirtual 150, 3) := by decide +kernel
theorem dX5_mark_27 : decode cX5_mark 27 = .ok (.ifCond .ne 9, 3) := by decide +kernel
theorem dX5_mark_30 : decode cX5_mark 30 = .ok (.aload_n 0, 1) := by decide +kernel
theorem dX5_mark_31 : decode cX5_mark 31 = .ok (.iconst 3, 1) := by decide +kernel
theorem dX5_mark_32 : decode cX5_mark 32 = .ok (.invokevirtual 79, 3) := by decide +kernel
theorem dX5_mark_35 : decode cX5_mark 35 = .ok (.ireturn, 1) := by decide +kernel
theorem dX5_mark_36 : decode cX5_mark 36 = .ok (.iload_n 2, 1) := by decide +kernel
theorem dX5_mark_37 : decode cX5_mark 37 = .ok (.lookupswitch 47 #[(1, 27), (2, 37)], 27) := by decide +kernel
theorem dX5_mark_64 : decode cX5_mark 64 = .ok (.aload_n 3, 1) := by decide +kernel
theorem dX5_mark_65 : decode cX5_mark 65 = .ok (.getfield 153, 3) := by decide +kernel
theorem dX5_mark_68 : decode cX5_mark 68 = .ok (.invokeinterface 107 1, 5) := by decide +kernel
theorem dX5_mark_73 : decode cX5_mark 73 = .ok (.ireturn, 1) := by decide +kernel
theorem dX5_mark_74 : decode cX5_mark 74 = .ok (.aload_n 3, 1) := by decide +kernel
theorem dX5_mark_75 : decode cX5_mark 75 = .ok (.aload_n 3, 1) := by decide +kernel
theorem dX5_mark_76 : decode cX5_mark 76 = .ok (.getfield 138, 3) := by decide +kernel
theorem dX5_mark_79 : decode cX5_mark 79 = .ok (.iconst 0, 1) := by decide +kernel
theorem dX5_mark_80 : decode cX5_mark 80 = .ok (.invokevirtual 156, 3) := by decide +kernel
theorem dX5_mark_83 : decode cX5_mark 83 = .ok (.ireturn, 1) := by decide +kernel
theorem dX5_mark_84 : decode cX5_mark 84 = .ok (.aload_n 3, 1) := by decide +kernel
theorem dX5_mark_85 : decode cX5_mark 85 = .ok (.getfield 159, 3) := by decide +kernel
theorem dX5_mark_88 : decode cX5_mark 88 = .ok (.ireturn, 1) := by decide +kernel
set_option maxRecDepth 20000 in
theorem ggX5_speed_X5_shipOf : GoodIn wsX5_speed wsX5_shipOf := goodIn_r _ [5, 6, 7, 8, 9, 10, 11, 12, 13, 14, 15, 16, 17, 18, 19, 20, 21, 22, 23, 24, 25, 26, 27, 28, 29, 30, 63, 64, 65, 66, 67, 68, 69, 70, 71, 72, 73, 74, 75, 76, 77] rfl (by decide +kernel)
set_option maxRecDepth 20000 in
theorem gX5_speed_X5_shipOf : GoodIn wsX5_speed (wsV RX5 122 RX5 yX5_shipOf wsX5_shipOf) := goodIn_app (goodIn_of _ (by decide +kernel)) ggX5_speed_X5_shipOf
set_option maxRecDepth 20000 in
theorem ggX5_speed_X5_outside : GoodIn wsX5_speed wsX5_outside := goodIn_r _ [33] rfl (by decide +kernel)
set_option maxRecDepth 20000 in
theorem gX5_speed_X5_outside : GoodIn wsX5_speed (va_wsS RX5 60 yX5_outside wsX5_outside) := goodIn_app (goodIn_of _ (by decide +kernel)) ggX5_speed_X5_outside
set_option maxRecDepth 20000 in
theorem ggX5_speed_X3_speedIn : GoodIn wsX5_speed wsX3_speedIn := goodIn_r _ [38, 39, 40, 41, 42, 43, 44, 45, 4, 46, 47, 48, 49, 50, 51, 52, 53, 54, 55, 56, 57, 37, 58, 59, 60, 61, 62, 78, 79, 80, 81, 82, 83, 84, 85, 86, 87, 88, 89, 90, 91] rfl (by decide +kernel)
set_option maxRecDepth 20000 in
theorem gX5_speed_X3_speedIn : GoodIn wsX5_speed (wsV RX5 156 RX3 yX3_speedIn wsX3_speedIn) := goodIn_app (goodIn_of _ (by decide +kernel)) ggX5_speed_X3_speedIn
theorem dX5_speed_0 : decode cX5_speed 0 = .ok (.aload_n 0, 1) := by decide +kernel
theorem dX5_speed_1 : decode cX5_speed 1 = .ok (.iload_n 1, 1) := by decide +kernel
theorem dX5_speed_2 : decode cX5_speed 2 = .ok (.invokevirtual 122, 3) := by decide +kernel
theorem dX5_speed_5 : decode cX5_speed 5 = .ok (.astore 5, 2) := by decide +kernel
theorem dX5_speed_7 : decode cX5_speed 7 = .ok (.aload 5, 2) := by decide +kernel
theorem dX5_speed_9 : decode cX5_speed 9 = .ok (.ifnull 31, 3) := by decide +kernel
theorem dX5_speed_12 : decode cX5_speed 12 = .ok (.iload_n 2, 1) := by decide +kernel
theorem dX5_speed_13 : decode cX5_speed 13 = .ok (.bipush 7, 2) := by decide +kernel
theorem dX5_speed_15 : decode cX5_speed 15 = .ok (.invokestatic 60, 3) := by decide +kernel
theorem dX5_speed_18 : decode cX5_speed 18 = .ok (.ifCond .ne 22, 3) := by decide +kernel
theorem dX5_speed_21 : decode cX5_speed 21 = .ok (.iload_n 3, 1) := by decide +kernel
theorem dX5_speed_22 : decode cX5_speed 22 = .ok (.bipush 7, 2) := by decide +kernel
theorem dX5_speed_24 : decode cX5_speed 24 = .ok (.invokestatic 60, 3) := by decide +kernel
theorem dX5_speed_27 : decode cX5_speed 27 = .ok (.ifCond .ne 13, 3) := by decide +kernel
theorem dX5_speed_30 : decode cX5_speed 30 = .ok (.iload 4, 2) := by decide +kernel
theorem dX5_speed_32 : decode cX5_speed 32 = .ok (.bipush 9, 2) := by decide +kernel
theorem dX5_speed_34 : decode cX5_speed 34 = .ok (.invokestatic 60, 3) := by decide +kernel
theorem dX5_speed_37 : decode cX5_speed 37 = .ok (.ifCond .eq 5, 3) := by decide +kernel
theorem dX5_speed_40 : decode cX5_speed 40 = .ok (.iconst (-1), 1) := by decide +kernel
theorem dX5_speed_41 : decode cX5_speed 41 = .ok (.ireturn, 1) := by decide +kernel
theorem dX5_speed_42 : decode cX5_speed 42 = .ok (.aload 5, 2) := by decide +kernel
theorem dX5_speed_44 : decode cX5_speed 44 = .ok (.iload_n 2, 1) := by decide +kernel
theorem dX5_speed_45 : decode cX5_speed 45 = .ok (.bipush 10, 2) := by decide +kernel
theorem dX5_speed_47 : decode cX5_speed 47 = .ok (.iload_n 3, 1) := by decide +kernel
theorem dX5_speed_48 : decode cX5_speed 48 = .ok (.imul, 1) := by decide +kernel
theorem dX5_speed_49 : decode cX5_speed 49 = .ok (.iload 4, 2) := by decide +kernel
theorem dX5_speed_51 : decode cX5_speed 51 = .ok (.iadd, 1) := by decide +kernel
theorem dX5_speed_52 : decode cX5_speed 52 = .ok (.invokevirtual 156, 3) := by decide +kernel
theorem dX5_speed_55 : decode cX5_speed 55 = .ok (.ireturn, 1) := by decide +kernel
set_option maxRecDepth 20000 in
theorem ggX5_order_X5_shipOf : GoodIn wsX5_order wsX5_shipOf := goodIn_r _ [9, 10, 11, 12, 13, 14, 15, 16, 17, 18, 19, 20, 21, 22, 23, 24, 25, 26, 27, 28, 29, 30, 31, 32, 33, 34, 126, 127, 128, 129, 130, 131, 132, 133, 134, 135, 136, 137, 138, 139, 140] rfl (by decide +kernel)
set_option maxRecDepth 20000 in
theorem gX5_order_X5_shipOf : GoodIn wsX5_order (wsV RX5 122 RX5 yX5_shipOf wsX5_shipOf) := goodIn_app (goodIn_of _ (by decide +kernel)) ggX5_order_X5_shipOf
set_option maxRecDepth 20000 in
theorem ggX5_order_X5_isNoSpan : GoodIn wsX5_order wsX5_isNoSpan := goodIn_r _ [37, 38, 39, 8, 40] rfl (by decide +kernel)
set_option maxRecDepth 20000 in
theorem gX5_order_X5_isNoSpan : GoodIn wsX5_order (va_wsS RX5 162 yX5_isNoSpan wsX5_isNoSpan) := goodIn_app (goodIn_of _ (by decide +kernel)) ggX5_order_X5_isNoSpan
set_option maxRecDepth 20000 in
theorem ggX5_order_X5_outside : GoodIn wsX5_order wsX5_outside := goodIn_r _ [40] rfl (by decide +kernel)
set_option maxRecDepth 20000 in
theorem gX5_order_X5_outside : GoodIn wsX5_order (va_wsS RX5 60 yX5_outside wsX5_outside) := goodIn_app (goodIn_of _ (by decide +kernel)) ggX5_order_X5_outside
set_option maxRecDepth 20000 in
theorem ggX5_order_Jx4a65c_size_8abf5 : GoodIn wsX5_order wsJx4a65c_size_8abf5 := goodIn_r _ [16, 17, 138, 139, 140] rfl (by decide +kernel)
set_option maxRecDepth 20000 in
theorem gX5_order_Jx4a65c_size_8abf5_f107Jx4a65c : GoodIn wsX5_order (va_wsF RX5 107 RJx4a65c ⟨"java/util/List", "size", "()I"⟩ yJx4a65c_size_8abf5 wsJx4a65c_size_8abf5) := goodIn_app (goodIn_of _ (by decide +kernel)) ggX5_order_Jx4a65c_size_8abf5
set_option maxRecDepth 20000 in
theorem ggX5_order_X0_init : GoodIn wsX5_order wsX0_init := goodIn_r _ [43, 44, 45, 46, 47, 48, 49, 50, 51, 52, 120, 121, 122, 123, 124, 125] rfl (by decide +kernel)
set_option maxRecDepth 20000 in
theorem gX5_order_X0_init : GoodIn wsX5_order (wsX0_init) := ggX5_order_X0_init
set_option maxRecDepth 20000 in
theorem ggX5_order_Jx4a65c_add_9ea2d : GoodIn wsX5_order wsJx4a65c_add_9ea2d := goodIn_r _ [56, 57, 58, 34, 17, 59, 60, 61, 15, 62, 63, 64, 65, 66, 67, 68, 69, 70, 71, 72, 73, 74, 75, 76, 77, 78, 79, 80, 81, 82, 83, 84, 85, 86, 87, 88, 89, 90, 91, 92, 93, 94, 95, 96, 97, 98, 99, 100, 101, 102, 103, 104, 105, 138, 139, 140] rfl (by decide +kernel)
set_option maxRecDepth 20000 in
theorem gX5_order_Jx4a65c_add_9ea2d_f118Jx4a65c : GoodIn wsX5_order (va_wsF RX5 118 RJx4a65c ⟨"java/util/List", "add", "(Ljava/lang/Object;)Z"⟩ yJx4a65c_add_9ea2d wsJx4a65c_add_9ea2d) := goodIn_app (goodIn_of _ (by decide +kernel)) ggX5_order_Jx4a65c_add_9ea2d
theorem dX5_order_0 : decode cX5_order 0 = .ok (.aload_n 0, 1) := by decide +kernel
theorem dX5_order_1 : decode cX5_order 1 = .ok (.iload_n 1, 1) := by decide +kernel
theorem dX5_order_2 : decode cX5_order 2 = .ok (.invokevirtual 122, 3) := by decide +kernel
theorem dX5_order_5 : decode cX5_order 5 = .ok (.astore 8, 2) := by decide +kernel
theorem dX5_order_7 : decode cX5_order 7 = .ok (.aload 8, 2) := by decide +kernel
theorem dX5_order_9 : decode cX5_order 9 = .ok (.ifnull 25, 3) := by decide +kernel
theorem dX5_order_12 : decode cX5_order 12 = .ok (.iload_n 2, 1) := by decide +kernel
theorem dX5_order_13 : decode cX5_order 13 = .ok (.iload_n 3, 1) := by decide +kernel
theorem dX5_order_14 : decode cX5_order 14 = .ok (.bipush 15, 2) := by decide +kernel
theorem dX5_order_16 : decode cX5_order 16 = .ok (.invokestatic 162, 3) := by decide +kernel
theorem dX5_order_19 : decode cX5_order 19 = .ok (.ifCond .ne 15, 3) := by decide +kernel
theorem dX5_order_22 : decode cX5_order 22 = .ok (.iload 4, 2) := by decide +kernel
theorem dX5_order_24 : decode cX5_order 24 = .ok (.iload 5, 2) := by decide +kernel
theorem dX5_order_26 : decode cX5_order 26 = .ok (.bipush 9, 2) := by decide +kernel
theorem dX5_order_28 : decode cX5_order 28 = .ok (.invokestatic 162, 3) := by decide +kernel
theorem dX5_order_31 : decode cX5_order 31 = .ok (.ifCond .eq 5, 3) := by decide +kernel
theorem dX5_order_34 : decode cX5_order 34 = .ok (.iconst (-1), 1) := by decide +kernel
theorem dX5_order_35 : decode cX5_order 35 = .ok (.ireturn, 1) := by decide +kernel
theorem dX5_order_36 : decode cX5_order 36 = .ok (.iload 6, 2) := by decide +kernel
theorem dX5_order_38 : decode cX5_order 38 = .ok (.bipush 9, 2) := by decide +kernel
theorem dX5_order_40 : decode cX5_order 40 = .ok (.invokestatic 60, 3) := by decide +kernel
theorem dX5_order_43 : decode cX5_order 43 = .ok (.ifCond .ne 13, 3) := by decide +kernel
theorem dX5_order_46 : decode cX5_order 46 = .ok (.iload 7, 2) := by decide +kernel
theorem dX5_order_48 : decode cX5_order 48 = .ok (.bipush 7, 2) := by decide +kernel
theorem dX5_order_50 : decode cX5_order 50 = .ok (.invokestatic 60, 3) := by decide +kernel
theorem dX5_order_53 : decode cX5_order 53 = .ok (.ifCond .eq 5, 3) := by decide +kernel
theorem dX5_order_56 : decode cX5_order 56 = .ok (.iconst (-1), 1) := by decide +kernel
theorem dX5_order_57 : decode cX5_order 57 = .ok (.ireturn, 1) := by decide +kernel
theorem dX5_order_58 : decode cX5_order 58 = .ok (.aload 8, 2) := by decide +kernel
theorem dX5_order_60 : decode cX5_order 60 = .ok (.getfield 153, 3) := by decide +kernel
theorem dX5_order_63 : decode cX5_order 63 = .ok (.invokeinterface 107 1, 5) := by decide +kernel
theorem dX5_order_68 : decode cX5_order 68 = .ok (.bipush 20, 2) := by decide +kernel
theorem dX5_order_70 : decode cX5_order 70 = .ok (.if_icmp .lt 6, 3) := by decide +kernel
theorem dX5_order_73 : decode cX5_order 73 = .ok (.bipush (-2), 2) := by decide +kernel
theorem dX5_order_75 : decode cX5_order 75 = .ok (.ireturn, 1) := by decide +kernel
theorem dX5_order_76 : decode cX5_order 76 = .ok (.aload 8, 2) := by decide +kernel
theorem dX5_order_78 : decode cX5_order 78 = .ok (.getfield 153, 3) := by decide +kernel
theorem dX5_order_81 : decode cX5_order 81 = .ok (.new 166, 3) := by decide +kernel
theorem dX5_order_84 : decode cX5_order 84 = .ok (.dup, 1) := by decide +kernel
theorem dX5_order_85 : decode cX5_order 85 = .ok (.iload_n 2, 1) := by decide +kernel
theorem dX5_order_86 : decode cX5_order 86 = .ok (.iload_n 3, 1) := by decide +kernel
theorem dX5_order_87 : decode cX5_order 87 = .ok (.iload 4, 2) := by decide +kernel
theorem dX5_order_89 : decode cX5_order 89 = .ok (.iload 5, 2) := by decide +kernel
theorem dX5_order_91 : decode cX5_order 91 = .ok (.iload 6, 2) := by decide +kernel
theorem dX5_order_93 : decode cX5_order 93 = .ok (.iload 7, 2) := by decide +kernel
theorem dX5_order_95 : decode cX5_order 95 = .ok (.invokespecial 168, 3) := by decide +kernel
theorem dX5_order_98 : decode cX5_order 98 = .ok (.invokeinterface 118 2, 5) := by decide +kernel
theorem dX5_order_103 : decode cX5_order 103 = .ok (.pop, 1) := by decide +kernel
theorem dX5_order_104 : decode cX5_order 104 = .ok (.aload 8, 2) := by decide +kernel
theorem dX5_order_106 : decode cX5_order 106 = .ok (.getfield 153, 3) := by decide +kernel
theorem dX5_order_109 : decode cX5_order 109 = .ok (.invokeinterface 107 1, 5) := by decide +kernel
theorem dX5_order_114 : decode cX5_order 114 = .ok (.ireturn, 1) := by decide +kernel
set_option maxRecDepth 20000 in
theorem ggX5_home_X5_isNoWater : GoodIn wsX5_home wsX5_isNoWater := goodIn_r _ [8, 9, 10, 11, 7, 12, 13, 14, 15, 16, 17, 18, 19, 20, 21, 22, 23, 24, 25, 26, 27, 28, 29, 30, 31, 32, 33] rfl (by decide +kernel)
set_option maxRecDepth 20000 in
theorem gX5_home_X5_isNoWater : GoodIn wsX5_home (wsV RX5 104 RX5 yX5_isNoWater wsX5_isNoWater) := goodIn_app (goodIn_of _ (by decide +kernel)) ggX5_home_X5_isNoWater
set_option maxRecDepth 20000 in
theorem ggX5_home_X5_outside : GoodIn wsX5_home wsX5_outside := goodIn_r _ [12] rfl (by decide +kernel)
set_option maxRecDepth 20000 in
theorem gX5_home_X5_outside : GoodIn wsX5_home (va_wsS RX5 60 yX5_outside wsX5_outside) := goodIn_app (goodIn_of _ (by decide +kernel)) ggX5_home_X5_outside
theorem dX5_home_0 : decode cX5_home 0 = .ok (.aload_n 0, 1) := by decide +kernel
theorem dX5_home_1 : decode cX5_home 1 = .ok (.iload_n 1, 1) := by decide +kernel
theorem dX5_home_2 : decode cX5_home 2 = .ok (.invokevirtual 104, 3) := by decide +kernel
theorem dX5_home_5 : decode cX5_home 5 = .ok (.ifCond .ne 12, 3) := by decide +kernel
theorem dX5_home_8 : decode cX5_home 8 = .ok (.iload_n 2, 1) := by decide +kernel
theorem dX5_home_9 : decode cX5_home 9 = .ok (.bipush 23, 2) := by decide +kernel
theorem dX5_home_11 : decode cX5_home 11 = .ok (.invokestatic 60, 3) := by decide +kernel
theorem dX5_home_14 : decode cX5_home 14 = .ok (.ifCond .eq 5, 3) := by decide +kernel
theorem dX5_home_17 : decode cX5_home 17 = .ok (.iconst (-1), 1) := by decide +kernel
theorem dX5_home_18 : decode cX5_home 18 = .ok (.ireturn, 1) := by decide +kernel
theorem dX5_home_19 : decode cX5_home 19 = .ok (.aload_n 0, 1) := by decide +kernel
theorem dX5_home_20 : decode cX5_home 20 = .ok (.getfield 38, 3) := by decide +kernel
theorem dX5_home_23 : decode cX5_home 23 = .ok (.ifCond .eq 6, 3) := by decide +kernel
theorem dX5_home_26 : decode cX5_home 26 = .ok (.bipush (-4), 2) := by decide +kernel
theorem dX5_home_28 : decode cX5_home 28 = .ok (.ireturn, 1) := by decide +kernel
theorem dX5_home_29 : decode cX5_home 29 = .ok (.aload_n 0, 1) := by decide +kernel
theorem dX5_home_30 : decode cX5_home 30 = .ok (.iload_n 1, 1) := by decide +kernel
theorem dX5_home_31 : decode cX5_home 31 = .ok (.putfield 41, 3) := by decide +kernel
theorem dX5_home_34 : decode cX5_home 34 = .ok (.aload_n 0, 1) := by decide +kernel
theorem dX5_home_35 : decode cX5_home 35 = .ok (.iload_n 2, 1) := by decide +kernel
theorem dX5_home_36 : decode cX5_home 36 = .ok (.putfield 44, 3) := by decide +kernel
theorem dX5_home_39 : decode cX5_home 39 = .ok (.iconst 1, 1) := by decide +kernel
theorem dX5_home_40 : decode cX5_home 40 = .ok (.ireturn, 1) := by decide +kernel
set_option maxRecDepth 20000 in
theorem ggX5_run_X5_outside : GoodIn wsX5_run wsX5_outside := goodIn_r _ [8] rfl (by decide +kernel)
set_option maxRecDepth 20000 in
theorem gX5_run_X5_outside : GoodIn wsX5_run (va_wsS RX5 60 yX5_outside wsX5_outside) := goodIn_app (goodIn_of _ (by decide +kernel)) ggX5_run_X5_outside
set_option maxRecDepth 20000 in
theorem ggX5_run_X5_shipsHome : GoodIn wsX5_run wsX5_shipsHome := goodIn_r _ [12, 3, 4, 13, 14, 15, 16, 17, 18, 19, 20, 21, 22, 23, 24, 25, 26, 27, 28, 29, 30, 31, 32, 33, 34, 35, 36, 37, 38, 39, 40, 41, 142, 143, 144, 145, 146, 147, 148, 149, 150, 151, 152, 153, 154, 155, 156, 157, 158, 159, 160, 161, 162, 163, 164, 165, 166, 167, 168, 169, 170] rfl (by decide +kernel)
set_option maxRecDepth 20000 in
theorem gX5_run_X5_shipsHome : GoodIn wsX5_run (wsV RX5 172 RX5 yX5_shipsHome wsX5_shipsHome) := goodIn_app (goodIn_of _ (by decide +kernel)) ggX5_run_X5_shipsHome
