set_option maxRecDepth 20000 in
theorem ggX5_run_Jx4a65c_size_8abf5 : GoodIn wsX5_run wsJx4a65c_size_8abf5 := goodIn_r _ [17, 18, 154, 155, 156] rfl (by decide +kernel)
set_option maxRecDepth 20000 in
theorem gX5_run_Jx4a65c_size_8abf5_f107Jx4a65c : GoodIn wsX5_run (va_wsF RX5 107 RJx4a65c ⟨"java/util/List", "size", "()I"⟩ yJx4a65c_size_8abf5 wsJx4a65c_size_8abf5) := goodIn_app (goodIn_of _ (by decide +kernel)) ggX5_run_Jx4a65c_size_8abf5
set_option maxRecDepth 20000 in
theorem ggX5_run_Jx4a65c_get_915e3 : GoodIn wsX5_run wsJx4a65c_get_915e3 := goodIn_r _ [22, 18, 23, 24, 25, 26, 27, 28, 29, 30, 31, 32, 33, 16, 34, 35, 154, 155, 156] rfl (by decide +kernel)
set_option maxRecDepth 20000 in
theorem gX5_run_Jx4a65c_get_915e3_f175Jx4a65c : GoodIn wsX5_run (va_wsF RX5 175 RJx4a65c ⟨"java/util/List", "get", "(I)Ljava/lang/Object;"⟩ yJx4a65c_get_915e3 wsJx4a65c_get_915e3) := goodIn_app (goodIn_of _ (by decide +kernel)) ggX5_run_Jx4a65c_get_915e3
set_option maxRecDepth 20000 in
theorem ggX5_run_X5_sail : GoodIn wsX5_run wsX5_sail := goodIn_r _ [45, 2, 46, 47, 48, 49, 36, 37, 38, 39, 40, 41, 50, 51, 7, 52, 53, 54, 55, 56, 57, 58, 59, 60, 61, 62, 63, 6, 8, 64, 65, 66, 67, 68, 69, 70, 71, 72, 73, 14, 15, 16, 17, 18, 74, 20, 21, 22, 23, 24, 25, 26, 27, 28, 29, 30, 31, 32, 33, 34, 35, 75, 76, 77, 78, 79, 80, 81, 82, 83, 84, 85, 86, 87, 88, 89, 90, 91, 92, 93, 94, 95, 96, 97, 98, 99, 100, 101, 102, 103, 104, 105, 106, 107, 108, 109, 110, 111, 112, 113, 114, 115, 116, 117, 118, 119, 120, 121, 122, 123, 124, 125, 126, 127, 128, 129, 130, 131, 132, 133, 134, 135, 136, 137, 138, 139, 140, 141, 142, 143, 144, 145, 146, 147, 148, 149, 150, 151, 152, 153, 157, 158, 159, 160, 161, 162, 163, 164, 165, 166, 167, 168, 169, 170, 171, 172, 173, 174, 175, 176, 177, 178, 179, 154, 155, 156] rfl (by decide +kernel)
set_option maxRecDepth 20000 in
theorem gX5_run_X5_sail : GoodIn wsX5_run (wsV RX5 179 RX5 yX5_sail wsX5_sail) := goodIn_app (goodIn_of _ (by decide +kernel)) ggX5_run_X5_sail
theorem dX5_run_0 : decode cX5_run 0 = .ok (.iload_n 1, 1) := by decide +kernel
theorem dX5_run_1 : decode cX5_run 1 = .ok (.sipush 2000, 3) := by decide +kernel
theorem dX5_run_4 : decode cX5_run 4 = .ok (.invokestatic 60, 3) := by decide +kernel
theorem dX5_run_7 : decode cX5_run 7 = .ok (.ifCond .eq 5, 3) := by decide +kernel
theorem dX5_run_10 : decode cX5_run 10 = .ok (.iconst (-1), 1) := by decide +kernel
theorem dX5_run_11 : decode cX5_run 11 = .ok (.ireturn, 1) := by decide +kernel
theorem dX5_run_12 : decode cX5_run 12 = .ok (.iload_n 1, 1) := by decide +kernel
theorem dX5_run_13 : decode cX5_run 13 = .ok (.ldc 171, 2) := by decide +kernel
theorem dX5_run_15 : decode cX5_run 15 = .ok (.aload_n 0, 1) := by decide +kernel
theorem dX5_run_16 : decode cX5_run 16 = .ok (.getfield 38, 3) := by decide +kernel
theorem dX5_run_19 : decode cX5_run 19 = .ok (.isub, 1) := by decide +kernel
theorem dX5_run_20 : decode cX5_run 20 = .ok (.if_icmp .le 6, 3) := by decide +kernel
theorem dX5_run_23 : decode cX5_run 23 = .ok (.bipush (-2), 2) := by decide +kernel
theorem dX5_run_25 : decode cX5_run 25 = .ok (.ireturn, 1) := by decide +kernel
theorem dX5_run_26 : decode cX5_run 26 = .ok (.aload_n 0, 1) := by decide +kernel
theorem dX5_run_27 : decode cX5_run 27 = .ok (.invokevirtual 172, 3) := by decide +kernel
theorem dX5_run_30 : decode cX5_run 30 = .ok (.istore_n 2, 1) := by decide +kernel
theorem dX5_run_31 : decode cX5_run 31 = .ok (.iconst 0, 1) := by decide +kernel
theorem dX5_run_32 : decode cX5_run 32 = .ok (.istore_n 3, 1) := by decide +kernel
theorem dX5_run_33 : decode cX5_run 33 = .ok (.iload_n 3, 1) := by decide +kernel
theorem dX5_run_34 : decode cX5_run 34 = .ok (.aload_n 0, 1) := by decide +kernel
theorem dX5_run_35 : decode cX5_run 35 = .ok (.getfield 26, 3) := by decide +kernel
theorem dX5_run_38 : decode cX5_run 38 = .ok (.invokeinterface 107 1, 5) := by decide +kernel
theorem dX5_run_43 : decode cX5_run 43 = .ok (.if_icmp .ge 32, 3) := by decide +kernel
theorem dX5_run_46 : decode cX5_run 46 = .ok (.aload_n 0, 1) := by decide +kernel
theorem dX5_run_47 : decode cX5_run 47 = .ok (.aload_n 0, 1) := by decide +kernel
theorem dX5_run_48 : decode cX5_run 48 = .ok (.getfield 26, 3) := by decide +kernel
theorem dX5_run_51 : decode cX5_run 51 = .ok (.iload_n 3, 1) := by decide +kernel
theorem dX5_run_52 : decode cX5_run 52 = .ok (.invokeinterface 175 2, 5) := by decide +kernel
theorem dX5_run_57 : decode cX5_run 57 = .ok (.checkcast 113, 3) := by decide +kernel
theorem dX5_run_60 : decode cX5_run 60 = .ok (.aload_n 0, 1) := by decide +kernel
theorem dX5_run_61 : decode cX5_run 61 = .ok (.getfield 38, 3) := by decide +kernel
theorem dX5_run_64 : decode cX5_run 64 = .ok (.iload_n 1, 1) := by decide +kernel
theorem dX5_run_65 : decode cX5_run 65 = .ok (.iadd, 1) := by decide +kernel
theorem dX5_run_66 : decode cX5_run 66 = .ok (.invokevirtual 179, 3) := by decide +kernel
theorem dX5_run_69 : decode cX5_run 69 = .ok (.iinc 3 1, 3) := by decide +kernel
theorem dX5_run_72 : decode cX5_run 72 = .ok (.goto (-39), 3) := by decide +kernel
theorem dX5_run_75 : decode cX5_run 75 = .ok (.aload_n 0, 1) := by decide +kernel
theorem dX5_run_76 : decode cX5_run 76 = .ok (.dup, 1) := by decide +kernel
theorem dX5_run_77 : decode cX5_run 77 = .ok (.getfield 38, 3) := by decide +kernel
theorem dX5_run_80 : decode cX5_run 80 = .ok (.iload_n 1, 1) := by decide +kernel
theorem dX5_run_81 : decode cX5_run 81 = .ok (.iadd, 1) := by decide +kernel
theorem dX5_run_82 : decode cX5_run 82 = .ok (.putfield 38, 3) := by decide +kernel
theorem dX5_run_85 : decode cX5_run 85 = .ok (.aload_n 0, 1) := by decide +kernel
theorem dX5_run_86 : decode cX5_run 86 = .ok (.invokevirtual 172, 3) := by decide +kernel
theorem dX5_run_89 : decode cX5_run 89 = .ok (.iload_n 2, 1) := by decide +kernel
theorem dX5_run_90 : decode cX5_run 90 = .ok (.isub, 1) := by decide +kernel
theorem dX5_run_91 : decode cX5_run 91 = .ok (.ireturn, 1) := by decide +kernel
set_option maxRecDepth 20000 in
theorem ggX5_first_X5_theFirst : GoodIn wsX5_first wsX5_theFirst := goodIn_r _ [6, 7, 8, 9, 10, 11, 12, 13, 14, 15, 16, 17, 18, 19, 20, 21, 22, 23, 24, 25, 26, 27, 28, 29, 30, 31, 32, 33, 34, 35, 36, 37, 38, 39, 40, 41, 42, 43, 58, 59, 60, 61, 62, 63, 64, 65, 66, 67, 68, 69, 70, 71, 72, 44, 45, 46, 47, 48, 49, 50, 51, 52, 53, 54, 55, 56, 57] rfl (by decide +kernel)
set_option maxRecDepth 20000 in
theorem gX5_first_X5_theFirst : GoodIn wsX5_first (wsV RX5 183 RX5 yX5_theFirst wsX5_theFirst) := goodIn_app (goodIn_of _ (by decide +kernel)) ggX5_first_X5_theFirst
theorem dX5_first_0 : decode cX5_first 0 = .ok (.aload_n 0, 1) := by decide +kernel
theorem dX5_first_1 : decode cX5_first 1 = .ok (.invokevirtual 183, 3) := by decide +kernel
theorem dX5_first_4 : decode cX5_first 4 = .ok (.astore_n 1, 1) := by decide +kernel
theorem dX5_first_5 : decode cX5_first 5 = .ok (.aload_n 1, 1) := by decide +kernel
theorem dX5_first_6 : decode cX5_first 6 = .ok (.ifnonnull 8, 3) := by decide +kernel
theorem dX5_first_9 : decode cX5_first 9 = .ok (.bipush (-9), 2) := by decide +kernel
theorem dX5_first_11 : decode cX5_first 11 = .ok (.goto 7, 3) := by decide +kernel
theorem dX5_first_14 : decode cX5_first 14 = .ok (.aload_n 1, 1) := by decide +kernel
theorem dX5_first_15 : decode cX5_first 15 = .ok (.getfield 187, 3) := by decide +kernel
theorem dX5_first_18 : decode cX5_first 18 = .ok (.ireturn, 1) := by decide +kernel
set_option maxRecDepth 20000 in
theorem ggX5_least_X5_shipOf : GoodIn wsX5_least wsX5_shipOf := goodIn_r _ [8, 9, 10, 11, 12, 13, 14, 15, 16, 17, 18, 19, 20, 21, 22, 23, 24, 25, 26, 27, 28, 29, 30, 31, 32, 33, 121, 122, 123, 124, 125, 126, 127, 128, 129, 130, 131, 132, 133, 134, 135] rfl (by decide +kernel)
set_option maxRecDepth 20000 in
theorem gX5_least_X5_shipOf : GoodIn wsX5_least (wsV RX5 122 RX5 yX5_shipOf wsX5_shipOf) := goodIn_app (goodIn_of _ (by decide +kernel)) ggX5_least_X5_shipOf
set_option maxRecDepth 20000 in
theorem ggX5_least_X5_isNoWater : GoodIn wsX5_least wsX5_isNoWater := goodIn_r _ [37, 3, 38, 39, 7, 40, 41, 42, 43, 44, 45, 46, 121, 122, 123, 124, 125, 126, 127, 128, 129, 130, 131, 132, 136, 137, 138] rfl (by decide +kernel)
set_option maxRecDepth 20000 in
theorem gX5_least_X5_isNoWater : GoodIn wsX5_least (wsV RX5 104 RX5 yX5_isNoWater wsX5_isNoWater) := goodIn_app (goodIn_of _ (by decide +kernel)) ggX5_least_X5_isNoWater
set_option maxRecDepth 20000 in
theorem ggX5_least_X5_outside : GoodIn wsX5_least wsX5_outside := goodIn_r _ [40] rfl (by decide +kernel)
set_option maxRecDepth 20000 in
theorem gX5_least_X5_outside : GoodIn wsX5_least (va_wsS RX5 60 yX5_outside wsX5_outside) := goodIn_app (goodIn_of _ (by decide +kernel)) ggX5_least_X5_outside
set_option maxRecDepth 20000 in
theorem ggX5_least_X1_leastHours : GoodIn wsX5_least wsX1_leastHours := goodIn_r _ [51, 52, 53, 39, 7, 40, 54, 55, 56, 50, 57, 58, 59, 60, 61, 62, 63, 64, 44, 65, 66, 42, 43, 45, 46, 67, 68, 69, 70, 71, 72, 73, 74, 75, 76, 77, 78, 79, 80, 81, 82, 83, 84, 85, 86, 87, 88, 89, 90, 91, 92, 93, 94, 95, 96, 97, 98, 99, 100, 101, 102, 103, 104, 105, 106, 107, 108, 109, 110, 111, 112, 113, 114, 115, 116, 117, 118, 119, 120, 139, 140, 136, 137, 138, 141, 142, 143, 144, 145, 146, 147, 148, 149, 150, 151, 152, 153, 154] rfl (by decide +kernel)
set_option maxRecDepth 20000 in
theorem gX5_least_X1_leastHours : GoodIn wsX5_least (wsV RX5 191 RX1 yX1_leastHours wsX1_leastHours) := goodIn_app (goodIn_of _ (by decide +kernel)) ggX5_least_X1_leastHours
theorem dX5_least_0 : decode cX5_least 0 = .ok (.aload_n 0, 1) := by decide +kernel
theorem dX5_least_1 : decode cX5_least 1 = .ok (.iload_n 1, 1) := by decide +kernel
theorem dX5_least_2 : decode cX5_least 2 = .ok (.invokevirtual 122, 3) := by decide +kernel
theorem dX5_least_5 : decode cX5_least 5 = .ok (.astore 5, 2) := by decide +kernel
theorem dX5_least_7 : decode cX5_least 7 = .ok (.aload 5, 2) := by decide +kernel
theorem dX5_least_9 : decode cX5_least 9 = .ok (.ifnull 29, 3) := by decide +kernel
theorem dX5_least_12 : decode cX5_least 12 = .ok (.aload_n 0, 1) := by decide +kernel
theorem dX5_least_13 : decode cX5_least 13 = .ok (.iload_n 2, 1) := by decide +kernel
theorem dX5_least_14 : decode cX5_least 14 = .ok (.invokevirtual 104, 3) := by decide +kernel
theorem dX5_least_17 : decode cX5_least 17 = .ok (.ifCond .ne 21, 3) := by decide +kernel
theorem dX5_least_20 : decode cX5_least 20 = .ok (.aload_n 0, 1) := by decide +kernel
theorem dX5_least_21 : decode cX5_least 21 = .ok (.iload_n 3, 1) := by decide +kernel
theorem dX5_least_22 : decode cX5_least 22 = .ok (.invokevirtual 104, 3) := by decide +kernel
theorem dX5_least_25 : decode cX5_least 25 = .ok (.ifCond .ne 13, 3) := by decide +kernel
theorem dX5_least_28 : decode cX5_least 28 = .ok (.iload 4, 2) := by decide +kernel
theorem dX5_least_30 : decode cX5_least 30 = .ok (.ldc 190, 2) := by decide +kernel
theorem dX5_least_32 : decode cX5_least 32 = .ok (.invokestatic 60, 3) := by decide +kernel
theorem dX5_least_35 : decode cX5_least 35 = .ok (.ifCond .eq 5, 3) := by decide +kernel
theorem dX5_least_38 : decode cX5_least 38 = .ok (.iconst (-1), 1) := by decide +kernel
theorem dX5_least_39 : decode cX5_least 39 = .ok (.ireturn, 1) := by decide +kernel
theorem dX5_least_40 : decode cX5_least 40 = .ok (.aload_n 0, 1) := by decide +kernel
theorem dX5_least_41 : decode cX5_least 41 = .ok (.getfield 19, 3) := by decide +kernel
theorem dX5_least_44 : decode cX5_least 44 = .ok (.aload_n 0, 1) := by decide +kernel
theorem dX5_least_45 : decode cX5_least 45 = .ok (.getfield 10, 3) := by decide +kernel
theorem dX5_least_48 : decode cX5_least 48 = .ok (.aload 5, 2) := by decide +kernel
theorem dX5_least_50 : decode cX5_least 50 = .ok (.iload_n 2, 1) := by decide +kernel
theorem dX5_least_51 : decode cX5_least 51 = .ok (.iload_n 3, 1) := by decide +kernel
theorem dX5_least_52 : decode cX5_least 52 = .ok (.iload 4, 2) := by decide +kernel
theorem dX5_least_54 : decode cX5_least 54 = .ok (.invokevirtual 191, 3) := by decide +kernel
theorem dX5_least_57 : decode cX5_least 57 = .ok (.ireturn, 1) := by decide +kernel
set_option maxRecDepth 20000 in
theorem ggX5_sight_X5_shipOf : GoodIn wsX5_sight wsX5_shipOf := goodIn_r _ [11, 12, 13, 14, 15, 16, 17, 18, 19, 20, 21, 22, 23, 24, 25, 26, 27, 28, 29, 30, 31, 32, 33, 34, 35, 36, 115, 116, 117, 118, 119, 120, 121, 122, 123, 124, 125, 126, 143, 144, 145] rfl (by decide +kernel)
set_option maxRecDepth 20000 in
theorem gX5_sight_X5_shipOf : GoodIn wsX5_sight (wsV RX5 122 RX5 yX5_shipOf wsX5_shipOf) := goodIn_app (goodIn_of _ (by decide +kernel)) ggX5_sight_X5_shipOf
set_option maxRecDepth 20000 in
theorem ggX5_sight_X5_outside : GoodIn wsX5_sight wsX5_outside := goodIn_r _ [39] rfl (by decide +kernel)
set_option maxRecDepth 20000 in
theorem gX5_sight_X5_outside : GoodIn wsX5_sight (va_wsS RX5 60 yX5_outside wsX5_outside) := goodIn_app (goodIn_of _ (by decide +kernel)) ggX5_sight_X5_outside
set_option maxRecDepth 20000 in
theorem ggX5_sight_X3_isUnseenFrom : GoodIn wsX5_sight wsX3_isUnseenFrom := goodIn_r _ [44, 45, 46, 47, 43, 48, 49, 50, 51, 52, 15, 16, 17, 18, 19, 53, 21, 22, 23, 24, 25, 26, 27, 28, 29, 30, 31, 32, 33, 34, 35, 36, 127, 128, 129, 130, 131, 132, 133, 134, 135, 136, 137, 138, 139, 140, 141, 142, 143, 144, 145] rfl (by decide +kernel)
set_option maxRecDepth 20000 in
theorem gX5_sight_X3_isUnseenFrom : GoodIn wsX5_sight (wsV RX5 195 RX3 yX3_isUnseenFrom wsX3_isUnseenFrom) := goodIn_app (goodIn_of _ (by decide +kernel)) ggX5_sight_X3_isUnseenFrom
set_option maxRecDepth 20000 in
theorem ggX5_sight_X4_init : GoodIn wsX5_sight wsX4_init := goodIn_r _ [56, 57, 58, 59, 60, 61, 141, 142] rfl (by decide +kernel)
set_option maxRecDepth 20000 in
theorem gX5_sight_X4_init : GoodIn wsX5_sight (wsX4_init) := ggX5_sight_X4_init
set_option maxRecDepth 20000 in
theorem ggX5_sight_Jx4a65c_add_9ea2d : GoodIn wsX5_sight wsJx4a65c_add_9ea2d := goodIn_r _ [65, 66, 67, 36, 19, 68, 69, 70, 17, 71, 72, 73, 74, 75, 76, 77, 78, 79, 80, 81, 82, 83, 84, 85, 86, 87, 88, 89, 90, 91, 92, 93, 94, 95, 96, 97, 98, 99, 100, 101, 102, 103, 104, 105, 106, 107, 108, 109, 110, 111, 112, 113, 114, 143, 144, 145] rfl (by decide +kernel)
set_option maxRecDepth 20000 in
theorem gX5_sight_Jx4a65c_add_9ea2d_f118Jx4a65c : GoodIn wsX5_sight (va_wsF RX5 118 RJx4a65c ⟨"java/util/List", "add", "(Ljava/lang/Object;)Z"⟩ yJx4a65c_add_9ea2d wsJx4a65c_add_9ea2d) := goodIn_app (goodIn_of _ (by decide +kernel)) ggX5_sight_Jx4a65c_add_9ea2d
theorem dX5_sight_0 : decode cX5_sight 0 = .ok (.aload_n 0, 1) := by decide +kernel
theorem dX5_sight_1 : decode cX5_sight 1 = .ok (.iload_n 1, 1) := by decide +kernel
theorem dX5_sight_2 : decode cX5_sight 2 = .ok (.invokevirtual 122, 3) := by decide +kernel
theorem dX5_sight_5 : decode cX5_sight 5 = .ok (.astore 4, 2) := by decide +kernel
theorem dX5_sight_7 : decode cX5_sight 7 = .ok (.aload 4, 2) := by decide +kernel
theorem dX5_sight_9 : decode cX5_sight 9 = .ok (.ifnull 31, 3) := by decide +kernel
theorem dX5_sight_12 : decode cX5_sight 12 = .ok (.iload_n 2, 1) := by decide +kernel
theorem dX5_sight_13 : decode cX5_sight 13 = .ok (.sipush 159, 3) := by decide +kernel
theorem dX5_sight_16 : decode cX5_sight 16 = .ok (.invokestatic 60, 3) := by decide +kernel
theorem dX5_sight_19 : decode cX5_sight 19 = .ok (.ifCond .ne 21, 3) := by decide +kernel
theorem dX5_sight_22 : decode cX5_sight 22 = .ok (.iload_n 3, 1) := by decide +kernel
theorem dX5_sight_23 : decode cX5_sight 23 = .ok (.ldc 171, 2) := by decide +kernel
theorem dX5_sight_25 : decode cX5_sight 25 = .ok (.invokestatic 60, 3) := by decide +kernel
theorem dX5_sight_28 : decode cX5_sight 28 = .ok (.ifCond .ne 12, 3) := by decide +kernel
theorem dX5_sight_31 : decode cX5_sight 31 = .ok (.aload 4, 2) := by decide +kernel
theorem dX5_sight_33 : decode cX5_sight 33 = .ok (.iload_n 3, 1) := by decide +kernel
theorem dX5_sight_34 : decode cX5_sight 34 = .ok (.invokevirtual 195, 3) := by decide +kernel
theorem dX5_sight_37 : decode cX5_sight 37 = .ok (.ifCond .ne 5, 3) := by decide +kernel
theorem dX5_sight_40 : decode cX5_sight 40 = .ok (.iconst (-1), 1) := by decide +kernel
theorem dX5_sight_41 : decode cX5_sight 41 = .ok (.ireturn, 1) := by decide +kernel
theorem dX5_sight_42 : decode cX5_sight 42 = .ok (.aload_n 0, 1) := by decide +kernel
theorem dX5_sight_43 : decode cX5_sight 43 = .ok (.getfield 47, 3) := by decide +kernel
theorem dX5_sight_46 : decode cX5_sight 46 = .ok (.bipush 60, 2) := by decide +kernel
theorem dX5_sight_48 : decode cX5_sight 48 = .ok (.if_icmp .lt 6, 3) := by decide +kernel
theorem dX5_sight_51 : decode cX5_sight 51 = .ok (.bipush (-2), 2) := by decide +kernel
theorem dX5_sight_53 : decode cX5_sight 53 = .ok (.ireturn, 1) := by decide +kernel
theorem dX5_sight_54 : decode cX5_sight 54 = .ok (.aload 4, 2) := by decide +kernel
theorem dX5_sight_56 : decode cX5_sight 56 = .ok (.getfield 198, 3) := by decide +kernel
theorem dX5_sight_59 : decode cX5_sight 59 = .ok (.new 201, 3) := by decide +kernel
theorem dX5_sight_62 : decode cX5_sight 62 = .ok (.dup, 1) := by decide +kernel
theorem dX5_sight_63 : decode cX5_sight 63 = .ok (.iload_n 2, 1) := by decide +kernel
theorem dX5_sight_64 : decode cX5_sight 64 = .ok (.iload_n 3, 1) := by decide +kernel
theorem dX5_sight_65 : decode cX5_sight 65 = .ok (.invokespecial 203, 3) := by decide +kernel
theorem dX5_sight_68 : decode cX5_sight 68 = .ok (.invokeinterface 118 2, 5) := by decide +kernel
theorem dX5_sight_73 : decode cX5_sight 73 = .ok (.pop, 1) := by decide +kernel
theorem dX5_sight_74 : decode cX5_sight 74 = .ok (.aload_n 0, 1) := by decide +kernel
theorem dX5_sight_75 : decode cX5_sight 75 = .ok (.dup, 1) := by decide +kernel
theorem dX5_sight_76 : decode cX5_sight 76 = .ok (.getfield 47, 3) := by decide +kernel
theorem dX5_sight_79 : decode cX5_sight 79 = .ok (.iconst 1, 1) := by decide +kernel
theorem dX5_sight_80 : decode cX5_sight 80 = .ok (.iadd, 1) := by decide +kernel
theorem dX5_sight_81 : decode cX5_sight 81 = .ok (.putfield 47, 3) := by decide +kernel
theorem dX5_sight_84 : decode cX5_sight 84 = .ok (.aload_n 0, 1) := by decide +kernel
theorem dX5_sight_85 : decode cX5_sight 85 = .ok (.getfield 47, 3) := by decide +kernel
theorem dX5_sight_88 : decode cX5_sight 88 = .ok (.ireturn, 1) := by decide +kernel
set_option maxRecDepth 20000 in
theorem ggX5_distance_X5_shipOf : GoodIn wsX5_distance wsX5_shipOf := goodIn_r _ [6, 7, 8, 9, 10, 11, 12, 13, 14, 15, 16, 17, 18, 19, 20, 21, 22, 23, 24, 25, 26, 27, 28, 29, 30, 31, 74, 75, 76, 77, 78, 79, 80, 81, 82, 83, 84, 85, 86, 87, 88] rfl (by decide +kernel)
set_option maxRecDepth 20000 in
theorem gX5_distance_X5_shipOf : GoodIn wsX5_distance (wsV RX5 122 RX5 yX5_shipOf wsX5_shipOf) := goodIn_app (goodIn_of _ (by decide +kernel)) ggX5_distance_X5_shipOf
set_option maxRecDepth 20000 in
theorem ggX5_distance_X5_outside : GoodIn wsX5_distance wsX5_outside := goodIn_r _ [34] rfl (by decide +kernel)
set_option maxRecDepth 20000 in
theorem gX5_distance_X5_outside : GoodIn wsX5_distance (va_wsS RX5 60 yX5_outside wsX5_outside) := goodIn_app (goodIn_of _ (by decide +kernel)) ggX5_distance_X5_outside
set_option maxRecDepth 20000 in
theorem ggX5_distance_X5_mostDistance : GoodIn wsX5_distance wsX5_mostDistance := goodIn_r _ [38, 39, 40, 41, 42, 43, 44, 45, 46, 47, 48, 49, 50, 51, 52, 53, 10, 11, 12, 13, 14, 54, 16, 17, 18, 19, 20, 21, 22, 23, 24, 25, 26, 27, 28, 29, 30, 31, 55, 56, 57, 58, 59, 60, 61, 5, 62, 63, 64, 65, 66, 67, 68, 69, 89, 90, 91, 92, 93, 94, 95, 96, 97, 98, 99, 100, 101, 102, 103, 104, 86, 87, 88, 74, 75, 76, 77, 78, 79, 80, 81, 82, 83, 84, 85] rfl (by decide +kernel)
set_option maxRecDepth 20000 in
theorem gX5_distance_X5_mostDistance : GoodIn wsX5_distance (wsV RX5 206 RX5 yX5_mostDistance wsX5_mostDistance) := goodIn_app (goodIn_of _ (by decide +kernel)) ggX5_distance_X5_mostDistance
set_option maxRecDepth 20000 in
theorem ggX5_distance_X5_leastDistance : GoodIn wsX5_distance wsX5_leastDistance := goodIn_r _ [73, 39, 40, 67, 68, 43, 69, 45, 46, 47, 48, 49, 50, 51, 52, 53, 10, 11, 12, 13, 14, 54, 16, 17, 18, 19, 20, 21, 22, 23, 24, 25, 26, 27, 28, 29, 30, 31, 55, 56, 57, 58, 59, 60, 61, 5, 62, 63, 64, 65, 66, 89, 90, 91, 92, 93, 94, 95, 96, 97, 98, 99, 100, 101, 102, 103, 104, 86, 87, 88, 74, 75, 76, 77, 78, 79, 80, 81, 82, 83, 84, 85] rfl (by decide +kernel)
set_option maxRecDepth 20000 in
theorem gX5_distance_X5_leastDistance : GoodIn wsX5_distance (wsV RX5 210 RX5 yX5_leastDistance wsX5_leastDistance) := goodIn_app (goodIn_of _ (by decide +kernel)) ggX5_distance_X5_leastDistance
theorem dX5_distance_0 : decode cX5_distance 0 = .ok (.aload_n 0, 1) := by decide +kernel
theorem dX5_distance_1 : decode cX5_distance 1 = .ok (.iload_n 1, 1) := by decide +kernel
theorem dX5_distance_2 : decode cX5_distance 2 = .ok (.invokevirtual 122, 3) := by decide +kernel
theorem dX5_distance_5 : decode cX5_distance 5 = .ok (.astore 4, 2) := by decide +kernel
theorem dX5_distance_7 : decode cX5_distance 7 = .ok (.aload 4, 2) := by decide +kernel
theorem dX5_distance_9 : decode cX5_distance 9 = .ok (.ifnull 12, 3) := by decide +kernel
theorem dX5_distance_12 : decode cX5_distance 12 = .ok (.iload_n 2, 1) := by decide +kernel
theorem dX5_distance_13 : decode cX5_distance 13 = .ok (.ldc 171, 2) := by decide +kernel
theorem dX5_distance_15 : decode cX5_distance 15 = .ok (.invokestatic 60, 3) := by decide +kernel
theorem dX5_distance_18 : decode cX5_distance 18 = .ok (.ifCond .eq 5, 3) := by decide +kernel
theorem dX5_distance_21 : decode cX5_distance 21 = .ok (.iconst (-1), 1) := by decide +kernel
theorem dX5_distance_22 : decode cX5_distance 22 = .ok (.ireturn, 1) := by decide +kernel
theorem dX5_distance_23 : decode cX5_distance 23 = .ok (.iload_n 3, 1) := by decide +kernel
theorem dX5_distance_24 : decode cX5_distance 24 = .ok (.ifCond .eq 13, 3) := by decide +kernel
theorem dX5_distance_27 : decode cX5_distance 27 = .ok (.aload_n 0, 1) := by decide +kernel
theorem dX5_distance_28 : decode cX5_distance 28 = .ok (.aload 4, 2) := by decide +kernel
theorem dX5_distance_30 : decode cX5_distance 30 = .ok (.iload_n 2, 1) := by decide +kernel
theorem dX5_distance_31 : decode cX5_distance 31 = .ok (.invokevirtual 206, 3) := by decide +kernel
theorem dX5_distance_34 : decode cX5_distance 34 = .ok (.goto 10, 3) := by decide +kernel
theorem dX5_distance_37 : decode cX5_distance 37 = .ok (.aload_n 0, 1) := by decide +kernel
theorem dX5_distance_38 : decode cX5_distance 38 = .ok (.aload 4, 2) := by decide +kernel
theorem dX5_distance_40 : decode cX5_distance 40 = .ok (.iload_n 2, 1) := by decide +kernel
theorem dX5_distance_41 : decode cX5_distance 41 = .ok (.invokevirtual 210, 3) := by decide +kernel
theorem dX5_distance_44 : decode cX5_distance 44 = .ok (.ireturn, 1) := by decide +kernel
set_option maxRecDepth 20000 in
theorem ggX5_ahead_X5_shipOf : GoodIn wsX5_ahead wsX5_shipOf := goodIn_r _ [6, 7, 8, 9, 10, 11, 12, 13, 14, 15, 16, 17, 18, 19, 20, 21, 22, 23, 24, 25, 26, 27, 28, 29, 30, 31, 80, 81, 82, 83, 84, 85, 86, 87, 88, 89, 90, 91, 92, 93, 94] rfl (by decide +kernel)
set_option maxRecDepth 20000 in
theorem gX5_ahead_X5_shipOf : GoodIn wsX5_ahead (wsV RX5 122 RX5 yX5_shipOf wsX5_shipOf) := goodIn_app (goodIn_of _ (by decide +kernel)) ggX5_ahead_X5_shipOf
set_option maxRecDepth 20000 in
theorem ggX5_ahead_X5_outside : GoodIn wsX5_ahead wsX5_outside := goodIn_r _ [34] rfl (by decide +kernel)
set_option maxRecDepth 20000 in
theorem gX5_ahead_X5_outside : GoodIn wsX5_ahead (va_wsS RX5 60 yX5_outside wsX5_outside) := goodIn_app (goodIn_of _ (by decide +kernel)) ggX5_ahead_X5_outside
set_option maxRecDepth 20000 in
theorem ggX5_ahead_X3_isSeenAround : GoodIn wsX5_ahead wsX3_isSeenAround := goodIn_r _ [39, 40, 41, 42, 38, 43, 44, 45, 46, 47, 10, 11, 12, 13, 14, 48, 16, 17, 18, 19, 20, 21, 22, 23, 24, 25, 26, 27, 28, 29, 30, 31, 49, 50, 51, 52, 95, 96, 97, 98, 99, 100, 101, 102, 103, 104, 105, 106, 107, 108, 109, 110, 92, 93, 94] rfl (by decide +kernel)
set_option maxRecDepth 20000 in
theorem gX5_ahead_X3_isSeenAround : GoodIn wsX5_ahead (wsV RX5 213 RX3 yX3_isSeenAround wsX3_isSeenAround) := goodIn_app (goodIn_of _ (by decide +kernel)) ggX5_ahead_X3_isSeenAround
set_option maxRecDepth 20000 in
theorem ggX5_ahead_X5_mostDistance : GoodIn wsX5_ahead wsX5_mostDistance := goodIn_r _ [56, 57, 58, 59, 60, 61, 62, 63, 41, 42, 38, 43, 44, 45, 46, 47, 10, 11, 12, 13, 14, 48, 16, 17, 18, 19, 20, 21, 22, 23, 24, 25, 26, 27, 28, 29, 30, 31, 64, 50, 51, 52, 65, 66, 67, 5, 68, 69, 70, 71, 72, 73, 74, 75, 109, 110, 95, 96, 97, 98, 99, 100, 101, 102, 103, 104, 105, 106, 107, 108, 92, 93, 94, 80, 81, 82, 83, 84, 85, 86, 87, 88, 89, 90, 91] rfl (by decide +kernel)
set_option maxRecDepth 20000 in
theorem gX5_ahead_X5_mostDistance : GoodIn wsX5_ahead (wsV RX5 206 RX5 yX5_mostDistance wsX5_mostDistance) := goodIn_app (goodIn_of _ (by decide +kernel)) ggX5_ahead_X5_mostDistance
set_option maxRecDepth 20000 in
theorem ggX5_ahead_X5_leastDistance : GoodIn wsX5_ahead wsX5_leastDistance := goodIn_r _ [79, 57, 58, 73, 74, 61, 75, 63, 41, 42, 38, 43, 44, 45, 46, 47, 10, 11, 12, 13, 14, 48, 16, 17, 18, 19, 20, 21, 22, 23, 24, 25, 26, 27, 28, 29, 30, 31, 64, 50, 51, 52, 65, 66, 67, 5, 68, 69, 70, 71, 72, 109, 110, 95, 96, 97, 98, 99, 100, 101, 102, 103, 104, 105, 106, 107, 108, 92, 93, 94, 80, 81, 82, 83, 84, 85, 86, 87, 88, 89, 90, 91] rfl (by decide +kernel)
set_option maxRecDepth 20000 in
theorem gX5_ahead_X5_leastDistance : GoodIn wsX5_ahead (wsV RX5 210 RX5 yX5_leastDistance wsX5_leastDistance) := goodIn_app (goodIn_of _ (by decide +kernel)) ggX5_ahead_X5_leastDistance
theorem dX5_ahead_0 : decode cX5_ahead 0 = .ok (.aload_n 0, 1) := by decide +kernel
theorem dX5_ahead_1 : decode cX5_ahead 1 = .ok (.iload_n 1, 1) := by decide +kernel
theorem dX5_ahead_2 : decode cX5_ahead 2 = .ok (.invokevirtual 122, 3) := by decide +kernel
theorem dX5_ahead_5 : decode cX5_ahead 5 = .ok (.astore 4, 2) := by decide +kernel
theorem dX5_ahead_7 : decode cX5_ahead 7 = .ok (.aload_n 0, 1) := by decide +kernel
theorem dX5_ahead_8 : decode cX5_ahead 8 = .ok (.iload_n 2, 1) := by decide +kernel
theorem dX5_ahead_9 : decode cX5_ahead 9 = .ok (.invokevirtual 122, 3) := by decide +kernel
theorem dX5_ahead_12 : decode cX5_ahead 12 = .ok (.astore 5, 2) := by decide +kernel
theorem dX5_ahead_14 : decode cX5_ahead 14 = .ok (.aload 4, 2) := by decide +kernel
theorem dX5_ahead_16 : decode cX5_ahead 16 = .ok (.ifnull 22, 3) := by decide +kernel
theorem dX5_ahead_19 : decode cX5_ahead 19 = .ok (.aload 5, 2) := by decide +kernel
theorem dX5_ahead_21 : decode cX5_ahead 21 = .ok (.ifnull 17, 3) := by decide +kernel
theorem dX5_ahead_24 : decode cX5_ahead 24 = .ok (.iload_n 1, 1) := by decide +kernel
theorem dX5_ahead_25 : decode cX5_ahead 25 = .ok (.iload_n 2, 1) := by decide +kernel
theorem dX5_ahead_26 : decode cX5_ahead 26 = .ok (.if_icmp .eq 12, 3) := by decide +kernel
theorem dX5_ahead_29 : decode cX5_ahead 29 = .ok (.iload_n 3, 1) := by decide +kernel
theorem dX5_ahead_30 : decode cX5_ahead 30 = .ok (.ldc 171, 2) := by decide +kernel
theorem dX5_ahead_32 : decode cX5_ahead 32 = .ok (.invokestatic 60, 3) := by decide +kernel
theorem dX5_ahead_35 : decode cX5_ahead 35 = .ok (.ifCond .eq 5, 3) := by decide +kernel
theorem dX5_ahead_38 : decode cX5_ahead 38 = .ok (.iconst (-1), 1) := by decide +kernel
theorem dX5_ahead_39 : decode cX5_ahead 39 = .ok (.ireturn, 1) := by decide +kernel
theorem dX5_ahead_40 : decode cX5_ahead 40 = .ok (.aload 4, 2) := by decide +kernel
theorem dX5_ahead_42 : decode cX5_ahead 42 = .ok (.iload_n 3, 1) := by decide +kernel
theorem dX5_ahead_43 : decode cX5_ahead 43 = .ok (.invokevirtual 213, 3) := by decide +kernel
theorem dX5_ahead_46 : decode cX5_ahead 46 = .ok (.ifCond .eq 12, 3) := by decide +kernel
theorem dX5_ahead_49 : decode cX5_ahead 49 = .ok (.aload 5, 2) := by decide +kernel
theorem dX5_ahead_51 : decode cX5_ahead 51 = .ok (.iload_n 3, 1) := by decide +kernel
theorem dX5_ahead_52 : decode cX5_ahead 52 = .ok (.invokevirtual 213, 3) := by decide +kernel
theorem dX5_ahead_55 : decode cX5_ahead 55 = .ok (.ifCond .ne 6, 3) := by decide +kernel
theorem dX5_ahead_58 : decode cX5_ahead 58 = .ok (.bipush (-9), 2) := by decide +kernel
theorem dX5_ahead_60 : decode cX5_ahead 60 = .ok (.ireturn, 1) := by decide +kernel
theorem dX5_ahead_61 : decode cX5_ahead 61 = .ok (.aload_n 0, 1) := by decide +kernel
theorem dX5_ahead_62 : decode cX5_ahead 62 = .ok (.aload 4, 2) := by decide +kernel
theorem dX5_ahead_64 : decode cX5_ahead 64 = .ok (.iload_n 3, 1) := by decide +kernel
theorem dX5_ahead_65 : decode cX5_ahead 65 = .ok (.invokevirtual 206, 3) := by decide +kernel
theorem dX5_ahead_68 : decode cX5_ahead 68 = .ok (.aload_n 0, 1) := by decide +kernel
theorem dX5_ahead_69 : decode cX5_ahead 69 = .ok (.aload 5, 2) := by decide +kernel
theorem dX5_ahead_71 : decode cX5_ahead 71 = .ok (.iload_n 3, 1) := by decide +kernel
theorem dX5_ahead_72 : decode cX5_ahead 72 = .ok (.invokevirtual 210, 3) := by decide +kernel
theorem dX5_ahead_75 : decode cX5_ahead 75 = .ok (.if_icmp .ge 5, 3) := by decide +kernel
theorem dX5_ahead_78 : decode cX5_ahead 78 = .ok (.iconst 0, 1) := by decide +kernel
theorem dX5_ahead_79 : decode cX5_ahead 79 = .ok (.ireturn, 1) := by decide +kernel
theorem dX5_ahead_80 : decode cX5_ahead 80 = .ok (.aload_n 0, 1) := by decide +kernel
theorem dX5_ahead_81 : decode cX5_ahead 81 = .ok (.aload 5, 2) := by decide +kernel
theorem dX5_ahead_83 : decode cX5_ahead 83 = .ok (.iload_n 3, 1) := by decide +kernel
theorem dX5_ahead_84 : decode cX5_ahead 84 = .ok (.invokevirtual 206, 3) := by decide +kernel
theorem dX5_ahead_87 : decode cX5_ahead 87 = .ok (.aload_n 0, 1) := by decide +kernel
theorem dX5_ahead_88 : decode cX5_ahead 88 = .ok (.aload 4, 2) := by decide +kernel
theorem dX5_ahead_90 : decode cX5_ahead 90 = .ok (.iload_n 3, 1) := by decide +kernel
theorem dX5_ahead_91 : decode cX5_ahead 91 = .ok (.invokevirtual 210, 3) := by decide +kernel
theorem dX5_ahead_94 : decode cX5_ahead 94 = .ok (.if_icmp .ge 7, 3) := by decide +kernel
theorem dX5_ahead_97 : decode cX5_ahead 97 = .ok (.iconst 1, 1) := by decide +kernel
theorem dX5_ahead_98 : decode cX5_ahead 98 = .ok (.goto 4, 3) := by decide +kernel
theorem dX5_ahead_101 : decode cX5_ahead 101 = .ok (.iconst 2, 1) := by decide +kernel
theorem dX5_ahead_102 : decode cX5_ahead 102 = .ok (.ireturn, 1) := by decide +kernel
set_option maxRecDepth 20000 in
theorem ggX5_charter_X5_shipOf : GoodIn wsX5_charter wsX5_shipOf := goodIn_r _ [8, 9, 10, 11, 12, 13, 14, 15, 16, 17, 18, 19, 20, 21, 22, 23, 24, 25, 26, 27, 28, 29, 30, 31, 32, 33, 51, 52, 53, 54, 55, 56, 57, 58, 59, 60, 61, 62, 63, 64, 65] rfl (by decide +kernel)
set_option maxRecDepth 20000 in
theorem gX5_charter_X5_shipOf : GoodIn wsX5_charter (wsV RX5 122 RX5 yX5_shipOf wsX5_shipOf) := goodIn_app (goodIn_of _ (by decide +kernel)) ggX5_charter_X5_shipOf
set_option maxRecDepth 20000 in
theorem ggX5_charter_X5_outside : GoodIn wsX5_charter wsX5_outside := goodIn_r _ [36] rfl (by decide +kernel)
set_option maxRecDepth 20000 in
theorem gX5_charter_X5_outside : GoodIn wsX5_charter (va_wsS RX5 60 yX5_outside wsX5_outside) := goodIn_app (goodIn_of _ (by decide +kernel)) ggX5_charter_X5_outside
theorem dX5_charter_0 : decode cX5_charter 0 = .ok (.aload_n 0, 1) := by decide +kernel
theorem dX5_charter_1 : decode cX5_charter 1 = .ok (.iload_n 1, 1) := by decide +kernel
theorem dX5_charter_2 : decode cX5_charter 2 = .ok (.invokevirtual 122, 3) := by decide +kernel
theorem dX5_charter_5 : decode cX5_charter 5 = .ok (.astore 4, 2) := by decide +kernel
theorem dX5_charter_7 : decode cX5_charter 7 = .ok (.aload 4, 2) := by decide +kernel
theorem dX5_charter_9 : decode cX5_charter 9 = .ok (.ifnull 22, 3) := by decide +kernel
theorem dX5_charter_12 : decode cX5_charter 12 = .ok (.iload_n 2, 1) := by decide +kernel
theorem dX5_charter_13 : decode cX5_charter 13 = .ok (.sipush 1000, 3) := by decide +kernel
theorem dX5_charter_16 : decode cX5_charter 16 = .ok (.invokestatic 60, 3) := by decide +kernel
theorem dX5_charter_19 : decode cX5_charter 19 = .ok (.ifCond .ne 12, 3) := by decide +kernel
theorem dX5_charter_22 : decode cX5_charter 22 = .ok (.iload_n 3, 1) := by decide +kernel
theorem dX5_charter_23 : decode cX5_charter 23 = .ok (.ldc 171, 2) := by decide +kernel
theorem dX5_charter_25 : decode cX5_charter 25 = .ok (.invokestatic 60, 3) := by decide +kernel
theorem dX5_charter_28 : decode cX5_charter 28 = .ok (.ifCond .eq 5, 3) := by decide +kernel
theorem dX5_charter_31 : decode cX5_charter 31 = .ok (.iconst (-1), 1) := by decide +kernel
theorem dX5_charter_32 : decode cX5_charter 32 = .ok (.ireturn, 1) := by decide +kernel
theorem dX5_charter_33 : decode cX5_charter 33 = .ok (.aload 4, 2) := by decide +kernel
theorem dX5_charter_35 : decode cX5_charter 35 = .ok (.iload_n 2, 1) := by decide +kernel
theorem dX5_charter_36 : decode cX5_charter 36 = .ok (.putfield 216, 3) := by decide +kernel
theorem dX5_charter_39 : decode cX5_charter 39 = .ok (.aload 4, 2) := by decide +kernel
theorem dX5_charter_41 : decode cX5_charter 41 = .ok (.iload_n 3, 1) := by decide +kernel
theorem dX5_charter_42 : decode cX5_charter 42 = .ok (.putfield 219, 3) := by decide +kernel
theorem dX5_charter_45 : decode cX5_charter 45 = .ok (.iconst 1, 1) := by decide +kernel
theorem dX5_charter_46 : decode cX5_charter 46 = .ok (.ireturn, 1) := by decide +kernel
set_option maxRecDepth 20000 in
theorem ggX5_freight_X5_shipOf : GoodIn wsX5_freight wsX5_shipOf := goodIn_r _ [8, 9, 10, 11, 12, 13, 14, 15, 16, 17, 18, 19, 20, 21, 22, 23, 24, 25, 26, 27, 28, 29, 30, 31, 32, 33, 64, 65, 66, 67, 68, 69, 70, 71, 72, 73, 74, 75, 76, 77, 78] rfl (by decide +kernel)
set_option maxRecDepth 20000 in
theorem gX5_freight_X5_shipOf : GoodIn wsX5_freight (wsV RX5 122 RX5 yX5_shipOf wsX5_shipOf) := goodIn_app (goodIn_of _ (by decide +kernel)) ggX5_freight_X5_shipOf
set_option maxRecDepth 20000 in
theorem ggX5_freight_X3_isHome : GoodIn wsX5_freight wsX3_isHome := goodIn_r _ [38, 39, 50, 51, 52, 53, 54, 55, 56, 57, 58, 59, 60, 61, 62, 63] rfl (by decide +kernel)
set_option maxRecDepth 20000 in
theorem gX5_freight_X3_isHome : GoodIn wsX5_freight (wsV RX5 222 RX3 yX3_isHome wsX3_isHome) := goodIn_app (goodIn_of _ (by decide +kernel)) ggX5_freight_X3_isHome
set_option maxRecDepth 20000 in
theorem ggX5_freight_X5_theFirst : GoodIn wsX5_freight wsX5_theFirst := goodIn_r _ [43, 9, 10, 11, 12, 13, 14, 15, 16, 17, 18, 19, 20, 21, 22, 23, 24, 25, 26, 27, 28, 29, 30, 31, 32, 33, 34, 35, 36, 37, 38, 39, 44, 45, 46, 47, 48, 49, 64, 65, 66, 67, 68, 69, 70, 71, 72, 73, 74, 75, 76, 77, 78, 50, 51, 52, 53, 54, 55, 56, 57, 58, 59, 60, 61, 62, 63] rfl (by decide +kernel)
set_option maxRecDepth 20000 in
theorem gX5_freight_X5_theFirst : GoodIn wsX5_freight (wsV RX5 183 RX5 yX5_theFirst wsX5_theFirst) := goodIn_app (goodIn_of _ (by decide +kernel)) ggX5_freight_X5_theFirst
theorem dX5_freight_0 : decode cX5_freight 0 = .ok (.aload_n 0, 1) := by decide +kernel
theorem dX5_freight_1 : decode cX5_freight 1 = .ok (.iload_n 1, 1) := by decide +kernel
theorem dX5_freight_2 : decode cX5_freight 2 = .ok (.invokevirtual 122, 3) := by decide +kernel
theorem dX5_freight_5 : decode cX5_freight 5 = .ok (.astore_n 2, 1) := by decide +kernel
theorem dX5_freight_6 : decode cX5_freight 6 = .ok (.aload_n 2, 1) := by decide +kernel
theorem dX5_freight_7 : decode cX5_freight 7 = .ok (.ifnonnull 5, 3) := by decide +kernel
theorem dX5_freight_10 : decode cX5_freight 10 = .ok (.iconst (-1), 1) := by decide +kernel
theorem dX5_freight_11 : decode cX5_freight 11 = .ok (.ireturn, 1) := by decide +kernel
theorem dX5_freight_12 : decode cX5_freight 12 = .ok (.aload_n 2, 1) := by decide +kernel
theorem dX5_freight_13 : decode cX5_freight 13 = .ok (.invokevirtual 222, 3) := by decide +kernel
theorem dX5_freight_16 : decode cX5_freight 16 = .ok (.ifCond .ne 6, 3) := by decide +kernel
theorem dX5_freight_19 : decode cX5_freight 19 = .ok (.bipush (-4), 2) := by decide +kernel
theorem dX5_freight_21 : decode cX5_freight 21 = .ok (.ireturn, 1) := by decide +kernel
theorem dX5_freight_22 : decode cX5_freight 22 = .ok (.aload_n 2, 1) := by decide +kernel
theorem dX5_freight_23 : decode cX5_freight 23 = .ok (.aload_n 0, 1) := by decide +kernel
theorem dX5_freight_24 : decode cX5_freight 24 = .ok (.invokevirtual 183, 3) := by decide +kernel
theorem dX5_freight_27 : decode cX5_freight 27 = .ok (.if_acmp .ne 10, 3) := by decide +kernel
theorem dX5_freight_30 : decode cX5_freight 30 = .ok (.aload_n 2, 1) := by decide +kernel
theorem dX5_freight_31 : decode cX5_freight 31 = .ok (.getfield 219, 3) := by decide +kernel
theorem dX5_freight_34 : decode cX5_freight 34 = .ok (.goto 4, 3) := by decide +kernel
theorem dX5_freight_37 : decode cX5_freight 37 = .ok (.iconst 0, 1) := by decide +kernel
theorem dX5_freight_38 : decode cX5_freight 38 = .ok (.istore_n 3, 1) := by decide +kernel
theorem dX5_freight_39 : decode cX5_freight 39 = .ok (.aload_n 2, 1) := by decide +kernel
theorem dX5_freight_40 : decode cX5_freight 40 = .ok (.getfield 147, 3) := by decide +kernel
theorem dX5_freight_43 : decode cX5_freight 43 = .ok (.aload_n 2, 1) := by decide +kernel
theorem dX5_freight_44 : decode cX5_freight 44 = .ok (.getfield 216, 3) := by decide +kernel
theorem dX5_freight_47 : decode cX5_freight 47 = .ok (.imul, 1) := by decide +kernel
theorem dX5_freight_48 : decode cX5_freight 48 = .ok (.iload_n 3, 1) := by decide +kernel
theorem dX5_freight_49 : decode cX5_freight 49 = .ok (.iadd, 1) := by decide +kernel
theorem dX5_freight_50 : decode cX5_freight 50 = .ok (.ireturn, 1) := by decide +kernel
set_option maxRecDepth 20000 in
theorem ggX5_market_X5_outside : GoodIn wsX5_market wsX5_outside := goodIn_r _ [6] rfl (by decide +kernel)
set_option maxRecDepth 20000 in
theorem gX5_market_X5_outside : GoodIn wsX5_market (va_wsS RX5 60 yX5_outside wsX5_outside) := goodIn_app (goodIn_of _ (by decide +kernel)) ggX5_market_X5_outside
theorem dX5_market_0 : decode cX5_market 0 = .ok (.iload_n 1, 1) := by decide +kernel
theorem dX5_market_1 : decode cX5_market 1 = .ok (.iconst 1, 1) := by decide +kernel
theorem dX5_market_2 : decode cX5_market 2 = .ok (.if_icmp .lt 20, 3) := by decide +kernel
theorem dX5_market_5 : decode cX5_market 5 = .ok (.iload_n 1, 1) := by decide +kernel
theorem dX5_market_6 : decode cX5_market 6 = .ok (.sipush 10000, 3) := by decide +kernel
theorem dX5_market_9 : decode cX5_market 9 = .ok (.if_icmp .gt 13, 3) := by decide +kernel
theorem dX5_market_12 : decode cX5_market 12 = .ok (.iload_n 2, 1) := by decide +kernel
theorem dX5_market_13 : decode cX5_market 13 = .ok (.sipush 1000, 3) := by decide +kernel
theorem dX5_market_16 : decode cX5_market 16 = .ok (.invokestatic 60, 3) := by decide +kernel
theorem dX5_market_19 : decode cX5_market 19 = .ok (.ifCond .eq 5, 3) := by decide +kernel
theorem dX5_market_22 : decode cX5_market 22 = .ok (.iconst (-1), 1) := by decide +kernel
theorem dX5_market_23 : decode cX5_market 23 = .ok (.ireturn, 1) := by decide +kernel
theorem dX5_market_24 : decode cX5_market 24 = .ok (.aload_n 0, 1) := by decide +kernel
theorem dX5_market_25 : decode cX5_market 25 = .ok (.iload_n 1, 1) := by decide +kernel
theorem dX5_market_26 : decode cX5_market 26 = .ok (.putfield 50, 3) := by decide +kernel
theorem dX5_market_29 : decode cX5_market 29 = .ok (.aload_n 0, 1) := by decide +kernel
theorem dX5_market_30 : decode cX5_market 30 = .ok (.iload_n 2, 1) := by decide +kernel
theorem dX5_market_31 : decode cX5_market 31 = .ok (.putfield 53, 3) := by decide +kernel
theorem dX5_market_34 : decode cX5_market 34 = .ok (.iconst 1, 1) := by decide +kernel
theorem dX5_market_35 : decode cX5_market 35 = .ok (.ireturn, 1) := by decide +kernel
set_option maxRecDepth 20000 in
theorem ggX5_sale_X5_shipOf : GoodIn wsX5_sale wsX5_shipOf := goodIn_r _ [6, 7, 8, 9, 10, 11, 12, 13, 14, 15, 16, 17, 18, 19, 20, 21, 22, 23, 24, 25, 26, 27, 28, 29, 30, 31, 59, 60, 61, 62, 63, 64, 65, 66, 67, 68, 69, 70, 71, 72, 73] rfl (by decide +kernel)
set_option maxRecDepth 20000 in
theorem gX5_sale_X5_shipOf : GoodIn wsX5_sale (wsV RX5 122 RX5 yX5_shipOf wsX5_shipOf) := goodIn_app (goodIn_of _ (by decide +kernel)) ggX5_sale_X5_shipOf
set_option maxRecDepth 20000 in
theorem ggX5_sale_X3_isHome : GoodIn wsX5_sale wsX3_isHome := goodIn_r _ [36, 37, 74, 75, 76, 77, 78, 79, 80, 81, 82, 83, 84, 85, 86, 87] rfl (by decide +kernel)
set_option maxRecDepth 20000 in
theorem gX5_sale_X3_isHome : GoodIn wsX5_sale (wsV RX5 222 RX3 yX3_isHome wsX3_isHome) := goodIn_app (goodIn_of _ (by decide +kernel)) ggX5_sale_X3_isHome
set_option maxRecDepth 20000 in
theorem ggX5_sale_X5_takings : GoodIn wsX5_sale wsX5_takings := goodIn_r _ [41, 42, 43, 44, 45, 5, 46, 7, 8, 47, 48, 49, 50, 51, 52, 9, 10, 11, 12, 13, 14, 15, 16, 17, 18, 19, 20, 21, 22, 23, 24, 25, 26, 27, 28, 29, 30, 31, 32, 33, 34, 35, 36, 37, 53, 54, 55, 56, 57, 58, 74, 75, 76, 77, 78, 79, 80, 81, 82, 83, 84, 85, 86, 87, 59, 60, 61, 62, 63, 64, 65, 66, 67, 68, 69, 70, 71, 72, 73] rfl (by decide +kernel)
set_option maxRecDepth 20000 in
theorem gX5_sale_X5_takings : GoodIn wsX5_sale (wsV RX5 226 RX5 yX5_takings wsX5_takings) := goodIn_app (goodIn_of _ (by decide +kernel)) ggX5_sale_X5_takings
set_option maxRecDepth 20000 in
theorem ggX5_sale_X5_priceAtEntry : GoodIn wsX5_sale wsX5_priceAtEntry := goodIn_r _ [46, 7, 8, 42, 47, 48, 49, 50, 51, 52, 9, 10, 11, 12, 13, 14, 15, 16, 17, 18, 19, 20, 21, 22, 23, 24, 25, 26, 27, 28, 29, 30, 31, 32, 33, 34, 35, 36, 37, 53, 54, 55, 56, 57, 58, 59, 60, 61, 62, 63, 64, 65, 66, 67, 68, 69, 70, 74, 75, 76, 77, 78, 79, 80, 81, 82, 83, 84, 85, 86, 87, 71, 72, 73] rfl (by decide +kernel)
set_option maxRecDepth 20000 in
theorem gX5_sale_X5_priceAtEntry : GoodIn wsX5_sale (wsV RX5 230 RX5 yX5_priceAtEntry wsX5_priceAtEntry) := goodIn_app (goodIn_of _ (by decide +kernel)) ggX5_sale_X5_priceAtEntry
theorem dX5_sale_0 : decode cX5_sale 0 = .ok (.aload_n 0, 1) := by decide +kernel
theorem dX5_sale_1 : decode cX5_sale 1 = .ok (.iload_n 1, 1) := by decide +kernel
theorem dX5_sale_2 : decode cX5_sale 2 = .ok (.invokevirtual 122, 3) := by decide +kernel
theorem dX5_sale_5 : decode cX5_sale 5 = .ok (.astore_n 2, 1) := by decide +kernel
theorem dX5_sale_6 : decode cX5_sale 6 = .ok (.aload_n 2, 1) := by decide +kernel
theorem dX5_sale_7 : decode cX5_sale 7 = .ok (.ifnonnull 5, 3) := by decide +kernel
theorem dX5_sale_10 : decode cX5_sale 10 = .ok (.iconst (-1), 1) := by decide +kernel
theorem dX5_sale_11 : decode cX5_sale 11 = .ok (.ireturn, 1) := by decide +kernel
theorem dX5_sale_12 : decode cX5_sale 12 = .ok (.aload_n 2, 1) := by decide +kernel
theorem dX5_sale_13 : decode cX5_sale 13 = .ok (.invokevirtual 222, 3) := by decide +kernel
theorem dX5_sale_16 : decode cX5_sale 16 = .ok (.ifCond .ne 6, 3) := by decide +kernel
theorem dX5_sale_19 : decode cX5_sale 19 = .ok (.bipush (-4), 2) := by decide +kernel
theorem dX5_sale_21 : decode cX5_sale 21 = .ok (.ireturn, 1) := by decide +kernel
theorem dX5_sale_22 : decode cX5_sale 22 = .ok (.aload_n 0, 1) := by decide +kernel
theorem dX5_sale_23 : decode cX5_sale 23 = .ok (.aload_n 0, 1) := by decide +kernel
theorem dX5_sale_24 : decode cX5_sale 24 = .ok (.aload_n 2, 1) := by decide +kernel
theorem dX5_sale_25 : decode cX5_sale 25 = .ok (.invokevirtual 226, 3) := by decide +kernel
theorem dX5_sale_28 : decode cX5_sale 28 = .ok (.putfield 56, 3) := by decide +kernel
theorem dX5_sale_31 : decode cX5_sale 31 = .ok (.aload_n 0, 1) := by decide +kernel
theorem dX5_sale_32 : decode cX5_sale 32 = .ok (.aload_n 2, 1) := by decide +kernel
theorem dX5_sale_33 : decode cX5_sale 33 = .ok (.invokevirtual 230, 3) := by decide +kernel
theorem dX5_sale_36 : decode cX5_sale 36 = .ok (.ireturn, 1) := by decide +kernel
set_option maxRecDepth 20000 in
theorem ggX5_meanPrice_Jx4a65c_size_8abf5 : GoodIn wsX5_meanPrice wsJx4a65c_size_8abf5 := goodIn_r _ [8, 9, 86, 87, 88] rfl (by decide +kernel)
set_option maxRecDepth 20000 in
theorem gX5_meanPrice_Jx4a65c_size_8abf5_f107Jx4a65c : GoodIn wsX5_meanPrice (va_wsF RX5 107 RJx4a65c ⟨"java/util/List", "size", "()I"⟩ yJx4a65c_size_8abf5 wsJx4a65c_size_8abf5) := goodIn_app (goodIn_of _ (by decide +kernel)) ggX5_meanPrice_Jx4a65c_size_8abf5
set_option maxRecDepth 20000 in
theorem ggX5_meanPrice_Jx4a65c_get_915e3 : GoodIn wsX5_meanPrice wsJx4a65c_get_915e3 := goodIn_r _ [13, 9, 14, 15, 16, 17, 18, 19, 20, 21, 22, 23, 24, 7, 25, 26, 86, 87, 88] rfl (by decide +kernel)
set_option maxRecDepth 20000 in
theorem gX5_meanPrice_Jx4a65c_get_915e3_f175Jx4a65c : GoodIn wsX5_meanPrice (va_wsF RX5 175 RJx4a65c ⟨"java/util/List", "get", "(I)Ljava/lang/Object;"⟩ yJx4a65c_get_915e3 wsJx4a65c_get_915e3) := goodIn_app (goodIn_of _ (by decide +kernel)) ggX5_meanPrice_Jx4a65c_get_915e3
set_option maxRecDepth 20000 in
theorem ggX5_meanPrice_X3_isHome : GoodIn wsX5_meanPrice wsX3_isHome := goodIn_r _ [31, 32, 72, 73, 74, 75, 76, 77, 78, 79, 80, 81, 82, 83, 84, 85] rfl (by decide +kernel)
set_option maxRecDepth 20000 in
theorem gX5_meanPrice_X3_isHome : GoodIn wsX5_meanPrice (wsV RX5 222 RX3 yX3_isHome wsX3_isHome) := goodIn_app (goodIn_of _ (by decide +kernel)) ggX5_meanPrice_X3_isHome
set_option maxRecDepth 20000 in
theorem ggX5_meanPrice_X5_takings : GoodIn wsX5_meanPrice wsX5_takings := goodIn_r _ [37, 3, 38, 39, 40, 36, 41, 1, 2, 42, 43, 44, 45, 46, 47, 4, 5, 6, 7, 8, 9, 10, 11, 12, 13, 14, 15, 16, 17, 18, 19, 20, 21, 22, 23, 24, 25, 26, 27, 28, 29, 30, 31, 32, 48, 49, 50, 51, 52, 53, 72, 73, 74, 75, 76, 77, 78, 79, 80, 81, 82, 83, 84, 85, 60, 61, 62, 63, 64, 65, 66, 67, 68, 69, 70, 71, 86, 87, 88] rfl (by decide +kernel)
set_option maxRecDepth 20000 in
theorem gX5_meanPrice_X5_takings : GoodIn wsX5_meanPrice (wsV RX5 226 RX5 yX5_takings wsX5_takings) := goodIn_app (goodIn_of _ (by decide +kernel)) ggX5_meanPrice_X5_takings
set_option maxRecDepth 20000 in
theorem ggX5_meanPrice_X5_found : GoodIn wsX5_meanPrice wsX5_found := goodIn_r _ [57, 58, 59, 60, 61, 62, 63, 64, 65, 66, 67, 68, 69, 70, 71] rfl (by decide +kernel)
set_option maxRecDepth 20000 in
theorem gX5_meanPrice_X5_found : GoodIn wsX5_meanPrice (wsV RX5 79 RX5 yX5_found wsX5_found) := goodIn_app (goodIn_of _ (by decide +kernel)) ggX5_meanPrice_X5_found
theorem dX5_meanPrice_0 : decode cX5_meanPrice 0 = .ok (.lconst 0, 1) := by decide +kernel
theorem dX5_meanPrice_1 : decode cX5_meanPrice 1 = .ok (.lstore_n 1, 1) := by decide +kernel
theorem dX5_meanPrice_2 : decode cX5_meanPrice 2 = .ok (.lconst 0, 1) := by decide +kernel
theorem dX5_meanPrice_3 : decode cX5_meanPrice 3 = .ok (.lstore_n 3, 1) := by decide +kernel
theorem dX5_meanPrice_4 : decode cX5_meanPrice 4 = .ok (.iconst 0, 1) := by decide +kernel
theorem dX5_meanPrice_5 : decode cX5_meanPrice 5 = .ok (.istore 5, 2) := by decide +kernel
theorem dX5_meanPrice_7 : decode cX5_meanPrice 7 = .ok (.iload 5, 2) := by decide +kernel
theorem dX5_meanPrice_9 : decode cX5_meanPrice 9 = .ok (.aload_n 0, 1) := by decide +kernel
theorem dX5_meanPrice_10 : decode cX5_meanPrice 10 = .ok (.getfield 26, 3) := by decide +kernel
theorem dX5_meanPrice_13 : decode cX5_meanPrice 13 = .ok (.invokeinterface 107 1, 5) := by decide +kernel
theorem dX5_meanPrice_18 : decode cX5_meanPrice 18 = .ok (.if_icmp .ge 51, 3) := by decide +kernel
theorem dX5_meanPrice_21 : decode cX5_meanPrice 21 = .ok (.aload_n 0, 1) := by decide +kernel
theorem dX5_meanPrice_22 : decode cX5_meanPrice 22 = .ok (.getfield 26, 3) := by decide +kernel
theorem dX5_meanPrice_25 : decode cX5_meanPrice 25 = .ok (.iload 5, 2) := by decide +kernel
theorem dX5_meanPrice_27 : decode cX5_meanPrice 27 = .ok (.invokeinterface 175 2, 5) := by decide +kernel
theorem dX5_meanPrice_32 : decode cX5_meanPrice 32 = .ok (.checkcast 113, 3) := by decide +kernel
theorem dX5_meanPrice_35 : decode cX5_meanPrice 35 = .ok (.astore 6, 2) := by decide +kernel
theorem dX5_meanPrice_37 : decode cX5_meanPrice 37 = .ok (.aload 6, 2) := by decide +kernel
theorem dX5_meanPrice_39 : decode cX5_meanPrice 39 = .ok (.invokevirtual 222, 3) := by decide +kernel
theorem dX5_meanPrice_42 : decode cX5_meanPrice 42 = .ok (.ifCond .eq 21, 3) := by decide +kernel
theorem dX5_meanPrice_45 : decode cX5_meanPrice 45 = .ok (.lload_n 1, 1) := by decide +kernel
theorem dX5_meanPrice_46 : decode cX5_meanPrice 46 = .ok (.aload_n 0, 1) := by decide +kernel
theorem dX5_meanPrice_47 : decode cX5_meanPrice 47 = .ok (.aload 6, 2) := by decide +kernel
theorem dX5_meanPrice_49 : decode cX5_meanPrice 49 = .ok (.invokevirtual 226, 3) := by decide +kernel
theorem dX5_meanPrice_52 : decode cX5_meanPrice 52 = .ok (.ladd, 1) := by decide +kernel
theorem dX5_meanPrice_53 : decode cX5_meanPrice 53 = .ok (.lstore_n 1, 1) := by decide +kernel
theorem dX5_meanPrice_54 : decode cX5_meanPrice 54 = .ok (.lload_n 3, 1) := by decide +kernel
theorem dX5_meanPrice_55 : decode cX5_meanPrice 55 = .ok (.aload 6, 2) := by decide +kernel
theorem dX5_meanPrice_57 : decode cX5_meanPrice 57 = .ok (.getfield 147, 3) := by decide +kernel
theorem dX5_meanPrice_60 : decode cX5_meanPrice 60 = .ok (.i2l, 1) := by decide +kernel
theorem dX5_meanPrice_61 : decode cX5_meanPrice 61 = .ok (.ladd, 1) := by decide +kernel
theorem dX5_meanPrice_62 : decode cX5_meanPrice 62 = .ok (.lstore_n 3, 1) := by decide +kernel
theorem dX5_meanPrice_63 : decode cX5_meanPrice 63 = .ok (.iinc 5 1, 3) := by decide +kernel
theorem dX5_meanPrice_66 : decode cX5_meanPrice 66 = .ok (.goto (-59), 3) := by decide +kernel
theorem dX5_meanPrice_69 : decode cX5_meanPrice 69 = .ok (.lload_n 3, 1) := by decide +kernel
theorem dX5_meanPrice_70 : decode cX5_meanPrice 70 = .ok (.lconst 0, 1) := by decide +kernel
theorem dX5_meanPrice_71 : decode cX5_meanPrice 71 = .ok (.lcmp, 1) := by decide +kernel
theorem dX5_meanPrice_72 : decode cX5_meanPrice 72 = .ok (.ifCond .ne 9, 3) := by decide +kernel
theorem dX5_meanPrice_75 : decode cX5_meanPrice 75 = .ok (.aload_n 0, 1) := by decide +kernel
theorem dX5_meanPrice_76 : decode cX5_meanPrice 76 = .ok (.iconst 4, 1) := by decide +kernel
theorem dX5_meanPrice_77 : decode cX5_meanPrice 77 = .ok (.invokevirtual 79, 3) := by decide +kernel
theorem dX5_meanPrice_80 : decode cX5_meanPrice 80 = .ok (.ireturn, 1) := by decide +kernel
theorem dX5_meanPrice_81 : decode cX5_meanPrice 81 = .ok (.lload_n 1, 1) := by decide +kernel
theorem dX5_meanPrice_82 : decode cX5_meanPrice 82 = .ok (.lload_n 3, 1) := by decide +kernel
theorem dX5_meanPrice_83 : decode cX5_meanPrice 83 = .ok (.ldiv, 1) := by decide +kernel
