theorem dX5_shipsHome_9 : decode cX5_shipsHome 9 = .ok (.invokeinterface 107 1, 5) := by decide +kernel
theorem dX5_shipsHome_14 : decode cX5_shipsHome 14 = .ok (.if_icmp .ge 31, 3) := by decide +kernel
theorem dX5_shipsHome_17 : decode cX5_shipsHome 17 = .ok (.aload_n 0, 1) := by decide +kernel
theorem dX5_shipsHome_18 : decode cX5_shipsHome 18 = .ok (.getfield 26, 3) := by decide +kernel
theorem dX5_shipsHome_21 : decode cX5_shipsHome 21 = .ok (.iload_n 2, 1) := by decide +kernel
theorem dX5_shipsHome_22 : decode cX5_shipsHome 22 = .ok (.invokeinterface 175 2, 5) := by decide +kernel
theorem dX5_shipsHome_27 : decode cX5_shipsHome 27 = .ok (.checkcast 113, 3) := by decide +kernel
theorem dX5_shipsHome_30 : decode cX5_shipsHome 30 = .ok (.invokevirtual 222, 3) := by decide +kernel
theorem dX5_shipsHome_33 : decode cX5_shipsHome 33 = .ok (.ifCond .eq 6, 3) := by decide +kernel
theorem dX5_shipsHome_36 : decode cX5_shipsHome 36 = .ok (.iinc 1 1, 3) := by decide +kernel
theorem dX5_shipsHome_39 : decode cX5_shipsHome 39 = .ok (.iinc 2 1, 3) := by decide +kernel
theorem dX5_shipsHome_42 : decode cX5_shipsHome 42 = .ok (.goto (-38), 3) := by decide +kernel
theorem dX5_shipsHome_45 : decode cX5_shipsHome 45 = .ok (.iload_n 1, 1) := by decide +kernel
theorem dX5_shipsHome_46 : decode cX5_shipsHome 46 = .ok (.ireturn, 1) := by decide +kernel
set_option maxRecDepth 20000 in
theorem ggX5_theFirst_Jx4a65c_size_8abf5 : GoodIn wsX5_theFirst wsJx4a65c_size_8abf5 := goodIn_r _ [7, 8, 50, 51, 52] rfl (by decide +kernel)
set_option maxRecDepth 20000 in
theorem gX5_theFirst_Jx4a65c_size_8abf5_f107Jx4a65c : GoodIn wsX5_theFirst (va_wsF RX5 107 RJx4a65c ⟨"java/util/List", "size", "()I"⟩ yJx4a65c_size_8abf5 wsJx4a65c_size_8abf5) := goodIn_app (goodIn_of _ (by decide +kernel)) ggX5_theFirst_Jx4a65c_size_8abf5
set_option maxRecDepth 20000 in
theorem ggX5_theFirst_Jx4a65c_get_915e3 : GoodIn wsX5_theFirst wsJx4a65c_get_915e3 := goodIn_r _ [12, 8, 13, 14, 15, 16, 17, 18, 19, 20, 21, 22, 23, 6, 24, 25, 50, 51, 52] rfl (by decide +kernel)
set_option maxRecDepth 20000 in
theorem gX5_theFirst_Jx4a65c_get_915e3_f175Jx4a65c : GoodIn wsX5_theFirst (va_wsF RX5 175 RJx4a65c ⟨"java/util/List", "get", "(I)Ljava/lang/Object;"⟩ yJx4a65c_get_915e3 wsJx4a65c_get_915e3) := goodIn_app (goodIn_of _ (by decide +kernel)) ggX5_theFirst_Jx4a65c_get_915e3
set_option maxRecDepth 20000 in
theorem ggX5_theFirst_X3_isHome : GoodIn wsX5_theFirst wsX3_isHome := goodIn_r _ [30, 31, 53, 54, 55, 56, 57, 58, 59, 60, 61, 62, 63, 64, 65, 66] rfl (by decide +kernel)
set_option maxRecDepth 20000 in
theorem gX5_theFirst_X3_isHome : GoodIn wsX5_theFirst (wsV RX5 222 RX3 yX3_isHome wsX3_isHome) := goodIn_app (goodIn_of _ (by decide +kernel)) ggX5_theFirst_X3_isHome
set_option maxRecDepth 20000 in
theorem ggX5_theFirst_X3_beats : GoodIn wsX5_theFirst wsX3_beats := goodIn_r _ [35, 36, 31, 37, 53, 54, 55, 56, 57, 58, 59, 60, 61, 62, 63, 64, 65, 66] rfl (by decide +kernel)
set_option maxRecDepth 20000 in
theorem gX5_theFirst_X3_beats : GoodIn wsX5_theFirst (wsV RX5 284 RX3 yX3_beats wsX3_beats) := goodIn_app (goodIn_of _ (by decide +kernel)) ggX5_theFirst_X3_beats
theorem dX5_theFirst_0 : decode cX5_theFirst 0 = .ok (.aconst_null, 1) := by decide +kernel
theorem dX5_theFirst_1 : decode cX5_theFirst 1 = .ok (.astore_n 1, 1) := by decide +kernel
theorem dX5_theFirst_2 : decode cX5_theFirst 2 = .ok (.iconst 0, 1) := by decide +kernel
theorem dX5_theFirst_3 : decode cX5_theFirst 3 = .ok (.istore_n 2, 1) := by decide +kernel
theorem dX5_theFirst_4 : decode cX5_theFirst 4 = .ok (.iload_n 2, 1) := by decide +kernel
theorem dX5_theFirst_5 : decode cX5_theFirst 5 = .ok (.aload_n 0, 1) := by decide +kernel
theorem dX5_theFirst_6 : decode cX5_theFirst 6 = .ok (.getfield 26, 3) := by decide +kernel
theorem dX5_theFirst_9 : decode cX5_theFirst 9 = .ok (.invokeinterface 107 1, 5) := by decide +kernel
theorem dX5_theFirst_14 : decode cX5_theFirst 14 = .ok (.if_icmp .ge 44, 3) := by decide +kernel
theorem dX5_theFirst_17 : decode cX5_theFirst 17 = .ok (.aload_n 0, 1) := by decide +kernel
theorem dX5_theFirst_18 : decode cX5_theFirst 18 = .ok (.getfield 26, 3) := by decide +kernel
theorem dX5_theFirst_21 : decode cX5_theFirst 21 = .ok (.iload_n 2, 1) := by decide +kernel
theorem dX5_theFirst_22 : decode cX5_theFirst 22 = .ok (.invokeinterface 175 2, 5) := by decide +kernel
theorem dX5_theFirst_27 : decode cX5_theFirst 27 = .ok (.checkcast 113, 3) := by decide +kernel
theorem dX5_theFirst_30 : decode cX5_theFirst 30 = .ok (.astore_n 3, 1) := by decide +kernel
theorem dX5_theFirst_31 : decode cX5_theFirst 31 = .ok (.aload_n 3, 1) := by decide +kernel
theorem dX5_theFirst_32 : decode cX5_theFirst 32 = .ok (.invokevirtual 222, 3) := by decide +kernel
theorem dX5_theFirst_35 : decode cX5_theFirst 35 = .ok (.ifCond .eq 17, 3) := by decide +kernel
theorem dX5_theFirst_38 : decode cX5_theFirst 38 = .ok (.aload_n 1, 1) := by decide +kernel
theorem dX5_theFirst_39 : decode cX5_theFirst 39 = .ok (.ifnull 11, 3) := by decide +kernel
theorem dX5_theFirst_42 : decode cX5_theFirst 42 = .ok (.aload_n 3, 1) := by decide +kernel
theorem dX5_theFirst_43 : decode cX5_theFirst 43 = .ok (.aload_n 1, 1) := by decide +kernel
theorem dX5_theFirst_44 : decode cX5_theFirst 44 = .ok (.invokevirtual 284, 3) := by decide +kernel
theorem dX5_theFirst_47 : decode cX5_theFirst 47 = .ok (.ifCond .eq 5, 3) := by decide +kernel
theorem dX5_theFirst_50 : decode cX5_theFirst 50 = .ok (.aload_n 3, 1) := by decide +kernel
theorem dX5_theFirst_51 : decode cX5_theFirst 51 = .ok (.astore_n 1, 1) := by decide +kernel
theorem dX5_theFirst_52 : decode cX5_theFirst 52 = .ok (.iinc 2 1, 3) := by decide +kernel
theorem dX5_theFirst_55 : decode cX5_theFirst 55 = .ok (.goto (-51), 3) := by decide +kernel
theorem dX5_theFirst_58 : decode cX5_theFirst 58 = .ok (.aload_n 1, 1) := by decide +kernel
theorem dX5_theFirst_59 : decode cX5_theFirst 59 = .ok (.areturn, 1) := by decide +kernel
theorem dX5_distanceFromHome_0 : decode cX5_distanceFromHome 0 = .ok (.iload_n 1, 1) := by decide +kernel
theorem dX5_distanceFromHome_1 : decode cX5_distanceFromHome 1 = .ok (.bipush 16, 2) := by decide +kernel
theorem dX5_distanceFromHome_3 : decode cX5_distanceFromHome 3 = .ok (.irem, 1) := by decide +kernel
theorem dX5_distanceFromHome_4 : decode cX5_distanceFromHome 4 = .ok (.aload_n 0, 1) := by decide +kernel
theorem dX5_distanceFromHome_5 : decode cX5_distanceFromHome 5 = .ok (.getfield 41, 3) := by decide +kernel
theorem dX5_distanceFromHome_8 : decode cX5_distanceFromHome 8 = .ok (.bipush 16, 2) := by decide +kernel
theorem dX5_distanceFromHome_10 : decode cX5_distanceFromHome 10 = .ok (.irem, 1) := by decide +kernel
theorem dX5_distanceFromHome_11 : decode cX5_distanceFromHome 11 = .ok (.isub, 1) := by decide +kernel
theorem dX5_distanceFromHome_12 : decode cX5_distanceFromHome 12 = .ok (.invokestatic 251, 3) := by decide +kernel
theorem dX5_distanceFromHome_15 : decode cX5_distanceFromHome 15 = .ok (.istore_n 2, 1) := by decide +kernel
theorem dX5_distanceFromHome_16 : decode cX5_distanceFromHome 16 = .ok (.iload_n 1, 1) := by decide +kernel
theorem dX5_distanceFromHome_17 : decode cX5_distanceFromHome 17 = .ok (.bipush 16, 2) := by decide +kernel
theorem dX5_distanceFromHome_19 : decode cX5_distanceFromHome 19 = .ok (.idiv, 1) := by decide +kernel
theorem dX5_distanceFromHome_20 : decode cX5_distanceFromHome 20 = .ok (.aload_n 0, 1) := by decide +kernel
theorem dX5_distanceFromHome_21 : decode cX5_distanceFromHome 21 = .ok (.getfield 41, 3) := by decide +kernel
theorem dX5_distanceFromHome_24 : decode cX5_distanceFromHome 24 = .ok (.bipush 16, 2) := by decide +kernel
theorem dX5_distanceFromHome_26 : decode cX5_distanceFromHome 26 = .ok (.idiv, 1) := by decide +kernel
theorem dX5_distanceFromHome_27 : decode cX5_distanceFromHome 27 = .ok (.isub, 1) := by decide +kernel
theorem dX5_distanceFromHome_28 : decode cX5_distanceFromHome 28 = .ok (.invokestatic 251, 3) := by decide +kernel
theorem dX5_distanceFromHome_31 : decode cX5_distanceFromHome 31 = .ok (.istore_n 3, 1) := by decide +kernel
theorem dX5_distanceFromHome_32 : decode cX5_distanceFromHome 32 = .ok (.iload_n 2, 1) := by decide +kernel
theorem dX5_distanceFromHome_33 : decode cX5_distanceFromHome 33 = .ok (.iload_n 3, 1) := by decide +kernel
theorem dX5_distanceFromHome_34 : decode cX5_distanceFromHome 34 = .ok (.invokestatic 288, 3) := by decide +kernel
theorem dX5_distanceFromHome_37 : decode cX5_distanceFromHome 37 = .ok (.ireturn, 1) := by decide +kernel
set_option maxRecDepth 20000 in
theorem ggX5_leastDistance_X3_lastSightBy : GoodIn wsX5_leastDistance wsX3_lastSightBy := goodIn_r _ [11, 12, 13, 14, 15, 16, 17, 18, 19, 20, 21, 22, 23, 24, 25, 26, 27, 28, 29, 30, 31, 32, 33, 34, 35, 36, 37, 53, 54, 55, 56, 57, 58, 59, 60, 61, 62, 63, 64, 65, 66, 51, 52, 67, 68, 69] rfl (by decide +kernel)
set_option maxRecDepth 20000 in
theorem gX5_leastDistance_X3_lastSightBy : GoodIn wsX5_leastDistance (wsV RX5 291 RX3 yX3_lastSightBy wsX3_lastSightBy) := goodIn_app (goodIn_of _ (by decide +kernel)) ggX5_leastDistance_X3_lastSightBy
set_option maxRecDepth 20000 in
theorem ggX5_leastDistance_X3_firstSightFrom : GoodIn wsX5_leastDistance wsX3_firstSightFrom := goodIn_r _ [41, 12, 13, 14, 15, 16, 17, 18, 19, 20, 21, 22, 23, 24, 25, 26, 27, 28, 29, 30, 31, 32, 33, 34, 35, 36, 37, 53, 54, 55, 56, 57, 58, 59, 60, 61, 62, 63, 64, 65, 66, 51, 52, 67, 68, 69] rfl (by decide +kernel)
set_option maxRecDepth 20000 in
theorem gX5_leastDistance_X3_firstSightFrom : GoodIn wsX5_leastDistance (wsV RX5 295 RX3 yX3_firstSightFrom wsX3_firstSightFrom) := goodIn_app (goodIn_of _ (by decide +kernel)) ggX5_leastDistance_X3_firstSightFrom
set_option maxRecDepth 20000 in
theorem ggX5_leastDistance_X5_distanceFromHome : GoodIn wsX5_leastDistance wsX5_distanceFromHome := goodIn_r _ [46, 47, 48, 49, 5, 50, 3, 4, 6, 70, 71, 72, 73, 74, 75, 76, 77, 78, 79, 80, 81] rfl (by decide +kernel)
set_option maxRecDepth 20000 in
theorem gX5_leastDistance_X5_distanceFromHome : GoodIn wsX5_leastDistance (wsV RX5 299 RX5 yX5_distanceFromHome wsX5_distanceFromHome) := goodIn_app (goodIn_of _ (by decide +kernel)) ggX5_leastDistance_X5_distanceFromHome
theorem dX5_leastDistance_0 : decode cX5_leastDistance 0 = .ok (.aload_n 1, 1) := by decide +kernel
theorem dX5_leastDistance_1 : decode cX5_leastDistance 1 = .ok (.iload_n 2, 1) := by decide +kernel
theorem dX5_leastDistance_2 : decode cX5_leastDistance 2 = .ok (.invokevirtual 291, 3) := by decide +kernel
theorem dX5_leastDistance_5 : decode cX5_leastDistance 5 = .ok (.astore_n 3, 1) := by decide +kernel
theorem dX5_leastDistance_6 : decode cX5_leastDistance 6 = .ok (.aload_n 1, 1) := by decide +kernel
theorem dX5_leastDistance_7 : decode cX5_leastDistance 7 = .ok (.iload_n 2, 1) := by decide +kernel
theorem dX5_leastDistance_8 : decode cX5_leastDistance 8 = .ok (.invokevirtual 295, 3) := by decide +kernel
theorem dX5_leastDistance_11 : decode cX5_leastDistance 11 = .ok (.astore 4, 2) := by decide +kernel
theorem dX5_leastDistance_13 : decode cX5_leastDistance 13 = .ok (.aload_n 3, 1) := by decide +kernel
theorem dX5_leastDistance_14 : decode cX5_leastDistance 14 = .ok (.ifnull 8, 3) := by decide +kernel
theorem dX5_leastDistance_17 : decode cX5_leastDistance 17 = .ok (.aload 4, 2) := by decide +kernel
theorem dX5_leastDistance_19 : decode cX5_leastDistance 19 = .ok (.ifnonnull 6, 3) := by decide +kernel
theorem dX5_leastDistance_22 : decode cX5_leastDistance 22 = .ok (.bipush (-9), 2) := by decide +kernel
theorem dX5_leastDistance_24 : decode cX5_leastDistance 24 = .ok (.ireturn, 1) := by decide +kernel
theorem dX5_leastDistance_25 : decode cX5_leastDistance 25 = .ok (.aload_n 0, 1) := by decide +kernel
theorem dX5_leastDistance_26 : decode cX5_leastDistance 26 = .ok (.aload_n 3, 1) := by decide +kernel
theorem dX5_leastDistance_27 : decode cX5_leastDistance 27 = .ok (.getfield 298, 3) := by decide +kernel
theorem dX5_leastDistance_30 : decode cX5_leastDistance 30 = .ok (.invokevirtual 299, 3) := by decide +kernel
theorem dX5_leastDistance_33 : decode cX5_leastDistance 33 = .ok (.iload_n 2, 1) := by decide +kernel
theorem dX5_leastDistance_34 : decode cX5_leastDistance 34 = .ok (.aload_n 3, 1) := by decide +kernel
theorem dX5_leastDistance_35 : decode cX5_leastDistance 35 = .ok (.getfield 302, 3) := by decide +kernel
theorem dX5_leastDistance_38 : decode cX5_leastDistance 38 = .ok (.isub, 1) := by decide +kernel
theorem dX5_leastDistance_39 : decode cX5_leastDistance 39 = .ok (.isub, 1) := by decide +kernel
theorem dX5_leastDistance_40 : decode cX5_leastDistance 40 = .ok (.istore 5, 2) := by decide +kernel
theorem dX5_leastDistance_42 : decode cX5_leastDistance 42 = .ok (.aload_n 0, 1) := by decide +kernel
theorem dX5_leastDistance_43 : decode cX5_leastDistance 43 = .ok (.aload 4, 2) := by decide +kernel
theorem dX5_leastDistance_45 : decode cX5_leastDistance 45 = .ok (.getfield 298, 3) := by decide +kernel
theorem dX5_leastDistance_48 : decode cX5_leastDistance 48 = .ok (.invokevirtual 299, 3) := by decide +kernel
theorem dX5_leastDistance_51 : decode cX5_leastDistance 51 = .ok (.aload 4, 2) := by decide +kernel
theorem dX5_leastDistance_53 : decode cX5_leastDistance 53 = .ok (.getfield 302, 3) := by decide +kernel
theorem dX5_leastDistance_56 : decode cX5_leastDistance 56 = .ok (.iload_n 2, 1) := by decide +kernel
theorem dX5_leastDistance_57 : decode cX5_leastDistance 57 = .ok (.isub, 1) := by decide +kernel
theorem dX5_leastDistance_58 : decode cX5_leastDistance 58 = .ok (.isub, 1) := by decide +kernel
theorem dX5_leastDistance_59 : decode cX5_leastDistance 59 = .ok (.istore 6, 2) := by decide +kernel
theorem dX5_leastDistance_61 : decode cX5_leastDistance 61 = .ok (.iconst 0, 1) := by decide +kernel
theorem dX5_leastDistance_62 : decode cX5_leastDistance 62 = .ok (.iload 5, 2) := by decide +kernel
theorem dX5_leastDistance_64 : decode cX5_leastDistance 64 = .ok (.iload 6, 2) := by decide +kernel
theorem dX5_leastDistance_66 : decode cX5_leastDistance 66 = .ok (.invokestatic 288, 3) := by decide +kernel
theorem dX5_leastDistance_69 : decode cX5_leastDistance 69 = .ok (.invokestatic 288, 3) := by decide +kernel
theorem dX5_leastDistance_72 : decode cX5_leastDistance 72 = .ok (.ireturn, 1) := by decide +kernel
set_option maxRecDepth 20000 in
theorem ggX5_mostDistance_X3_lastSightBy : GoodIn wsX5_mostDistance wsX3_lastSightBy := goodIn_r _ [11, 12, 13, 14, 15, 16, 17, 18, 19, 20, 21, 22, 23, 24, 25, 26, 27, 28, 29, 30, 31, 32, 33, 34, 35, 36, 37, 56, 57, 58, 59, 60, 61, 62, 63, 64, 65, 66, 67, 68, 69, 54, 55, 70, 71, 72] rfl (by decide +kernel)
set_option maxRecDepth 20000 in
theorem gX5_mostDistance_X3_lastSightBy : GoodIn wsX5_mostDistance (wsV RX5 291 RX3 yX3_lastSightBy wsX3_lastSightBy) := goodIn_app (goodIn_of _ (by decide +kernel)) ggX5_mostDistance_X3_lastSightBy
set_option maxRecDepth 20000 in
theorem ggX5_mostDistance_X3_firstSightFrom : GoodIn wsX5_mostDistance wsX3_firstSightFrom := goodIn_r _ [41, 12, 13, 14, 15, 16, 17, 18, 19, 20, 21, 22, 23, 24, 25, 26, 27, 28, 29, 30, 31, 32, 33, 34, 35, 36, 37, 56, 57, 58, 59, 60, 61, 62, 63, 64, 65, 66, 67, 68, 69, 54, 55, 70, 71, 72] rfl (by decide +kernel)
set_option maxRecDepth 20000 in
theorem gX5_mostDistance_X3_firstSightFrom : GoodIn wsX5_mostDistance (wsV RX5 295 RX3 yX3_firstSightFrom wsX3_firstSightFrom) := goodIn_app (goodIn_of _ (by decide +kernel)) ggX5_mostDistance_X3_firstSightFrom
set_option maxRecDepth 20000 in
theorem ggX5_mostDistance_X5_distanceFromHome : GoodIn wsX5_mostDistance wsX5_distanceFromHome := goodIn_r _ [46, 47, 48, 49, 5, 50, 51, 52, 53, 73, 74, 75, 76, 77, 78, 79, 80, 81, 82, 83, 84] rfl (by decide +kernel)
set_option maxRecDepth 20000 in
theorem gX5_mostDistance_X5_distanceFromHome : GoodIn wsX5_mostDistance (wsV RX5 299 RX5 yX5_distanceFromHome wsX5_distanceFromHome) := goodIn_app (goodIn_of _ (by decide +kernel)) ggX5_mostDistance_X5_distanceFromHome
theorem dX5_mostDistance_0 : decode cX5_mostDistance 0 = .ok (.aload_n 1, 1) := by decide +kernel
theorem dX5_mostDistance_1 : decode cX5_mostDistance 1 = .ok (.iload_n 2, 1) := by decide +kernel
theorem dX5_mostDistance_2 : decode cX5_mostDistance 2 = .ok (.invokevirtual 291, 3) := by decide +kernel
theorem dX5_mostDistance_5 : decode cX5_mostDistance 5 = .ok (.astore_n 3, 1) := by decide +kernel
theorem dX5_mostDistance_6 : decode cX5_mostDistance 6 = .ok (.aload_n 1, 1) := by decide +kernel
theorem dX5_mostDistance_7 : decode cX5_mostDistance 7 = .ok (.iload_n 2, 1) := by decide +kernel
theorem dX5_mostDistance_8 : decode cX5_mostDistance 8 = .ok (.invokevirtual 295, 3) := by decide +kernel
theorem dX5_mostDistance_11 : decode cX5_mostDistance 11 = .ok (.astore 4, 2) := by decide +kernel
theorem dX5_mostDistance_13 : decode cX5_mostDistance 13 = .ok (.aload_n 3, 1) := by decide +kernel
theorem dX5_mostDistance_14 : decode cX5_mostDistance 14 = .ok (.ifnull 8, 3) := by decide +kernel
theorem dX5_mostDistance_17 : decode cX5_mostDistance 17 = .ok (.aload 4, 2) := by decide +kernel
theorem dX5_mostDistance_19 : decode cX5_mostDistance 19 = .ok (.ifnonnull 6, 3) := by decide +kernel
theorem dX5_mostDistance_22 : decode cX5_mostDistance 22 = .ok (.bipush (-9), 2) := by decide +kernel
theorem dX5_mostDistance_24 : decode cX5_mostDistance 24 = .ok (.ireturn, 1) := by decide +kernel
theorem dX5_mostDistance_25 : decode cX5_mostDistance 25 = .ok (.aload_n 0, 1) := by decide +kernel
theorem dX5_mostDistance_26 : decode cX5_mostDistance 26 = .ok (.aload_n 3, 1) := by decide +kernel
theorem dX5_mostDistance_27 : decode cX5_mostDistance 27 = .ok (.getfield 298, 3) := by decide +kernel
theorem dX5_mostDistance_30 : decode cX5_mostDistance 30 = .ok (.invokevirtual 299, 3) := by decide +kernel
theorem dX5_mostDistance_33 : decode cX5_mostDistance 33 = .ok (.iload_n 2, 1) := by decide +kernel
theorem dX5_mostDistance_34 : decode cX5_mostDistance 34 = .ok (.aload_n 3, 1) := by decide +kernel
theorem dX5_mostDistance_35 : decode cX5_mostDistance 35 = .ok (.getfield 302, 3) := by decide +kernel
theorem dX5_mostDistance_38 : decode cX5_mostDistance 38 = .ok (.isub, 1) := by decide +kernel
theorem dX5_mostDistance_39 : decode cX5_mostDistance 39 = .ok (.iadd, 1) := by decide +kernel
theorem dX5_mostDistance_40 : decode cX5_mostDistance 40 = .ok (.istore 5, 2) := by decide +kernel
theorem dX5_mostDistance_42 : decode cX5_mostDistance 42 = .ok (.aload_n 0, 1) := by decide +kernel
theorem dX5_mostDistance_43 : decode cX5_mostDistance 43 = .ok (.aload 4, 2) := by decide +kernel
theorem dX5_mostDistance_45 : decode cX5_mostDistance 45 = .ok (.getfield 298, 3) := by decide +kernel
theorem dX5_mostDistance_48 : decode cX5_mostDistance 48 = .ok (.invokevirtual 299, 3) := by decide +kernel
theorem dX5_mostDistance_51 : decode cX5_mostDistance 51 = .ok (.aload 4, 2) := by decide +kernel
theorem dX5_mostDistance_53 : decode cX5_mostDistance 53 = .ok (.getfield 302, 3) := by decide +kernel
theorem dX5_mostDistance_56 : decode cX5_mostDistance 56 = .ok (.iload_n 2, 1) := by decide +kernel
theorem dX5_mostDistance_57 : decode cX5_mostDistance 57 = .ok (.isub, 1) := by decide +kernel
theorem dX5_mostDistance_58 : decode cX5_mostDistance 58 = .ok (.iadd, 1) := by decide +kernel
theorem dX5_mostDistance_59 : decode cX5_mostDistance 59 = .ok (.istore 6, 2) := by decide +kernel
theorem dX5_mostDistance_61 : decode cX5_mostDistance 61 = .ok (.iload 5, 2) := by decide +kernel
theorem dX5_mostDistance_63 : decode cX5_mostDistance 63 = .ok (.iload 6, 2) := by decide +kernel
theorem dX5_mostDistance_65 : decode cX5_mostDistance 65 = .ok (.invokestatic 256, 3) := by decide +kernel
theorem dX5_mostDistance_68 : decode cX5_mostDistance 68 = .ok (.ireturn, 1) := by decide +kernel
set_option maxRecDepth 20000 in
theorem ggX5_priceAtEntry_Jx4a65c_size_8abf5 : GoodIn wsX5_priceAtEntry wsJx4a65c_size_8abf5 := goodIn_r _ [14, 15, 71, 72, 73] rfl (by decide +kernel)
set_option maxRecDepth 20000 in
theorem gX5_priceAtEntry_Jx4a65c_size_8abf5_f107Jx4a65c : GoodIn wsX5_priceAtEntry (va_wsF RX5 107 RJx4a65c ⟨"java/util/List", "size", "()I"⟩ yJx4a65c_size_8abf5 wsJx4a65c_size_8abf5) := goodIn_app (goodIn_of _ (by decide +kernel)) ggX5_priceAtEntry_Jx4a65c_size_8abf5
set_option maxRecDepth 20000 in
theorem ggX5_priceAtEntry_Jx4a65c_get_915e3 : GoodIn wsX5_priceAtEntry wsJx4a65c_get_915e3 := goodIn_r _ [19, 15, 20, 21, 22, 23, 24, 25, 26, 27, 28, 29, 30, 13, 31, 32, 71, 72, 73] rfl (by decide +kernel)
set_option maxRecDepth 20000 in
theorem gX5_priceAtEntry_Jx4a65c_get_915e3_f175Jx4a65c : GoodIn wsX5_priceAtEntry (va_wsF RX5 175 RJx4a65c ⟨"java/util/List", "get", "(I)Ljava/lang/Object;"⟩ yJx4a65c_get_915e3 wsJx4a65c_get_915e3) := goodIn_app (goodIn_of _ (by decide +kernel)) ggX5_priceAtEntry_Jx4a65c_get_915e3
set_option maxRecDepth 20000 in
theorem ggX5_priceAtEntry_X3_isHome : GoodIn wsX5_priceAtEntry wsX3_isHome := goodIn_r _ [37, 38, 57, 58, 59, 60, 61, 62, 63, 64, 65, 66, 67, 68, 69, 70] rfl (by decide +kernel)
set_option maxRecDepth 20000 in
theorem gX5_priceAtEntry_X3_isHome : GoodIn wsX5_priceAtEntry (wsV RX5 222 RX3 yX3_isHome wsX3_isHome) := goodIn_app (goodIn_of _ (by decide +kernel)) ggX5_priceAtEntry_X3_isHome
set_option maxRecDepth 20000 in
theorem ggX5_priceAtEntry_X3_entersBefore : GoodIn wsX5_priceAtEntry wsX3_entersBefore := goodIn_r _ [42, 43, 44, 57, 58, 59, 60, 61, 62, 63, 64, 65, 66, 67, 68, 69, 70] rfl (by decide +kernel)
set_option maxRecDepth 20000 in
theorem gX5_priceAtEntry_X3_entersBefore : GoodIn wsX5_priceAtEntry (wsV RX5 303 RX3 yX3_entersBefore wsX3_entersBefore) := goodIn_app (goodIn_of _ (by decide +kernel)) ggX5_priceAtEntry_X3_entersBefore
theorem dX5_priceAtEntry_0 : decode cX5_priceAtEntry 0 = .ok (.iconst 0, 1) := by decide +kernel
theorem dX5_priceAtEntry_1 : decode cX5_priceAtEntry 1 = .ok (.istore_n 2, 1) := by decide +kernel
theorem dX5_priceAtEntry_2 : decode cX5_priceAtEntry 2 = .ok (.iconst 0, 1) := by decide +kernel
theorem dX5_priceAtEntry_3 : decode cX5_priceAtEntry 3 = .ok (.istore_n 3, 1) := by decide +kernel
theorem dX5_priceAtEntry_4 : decode cX5_priceAtEntry 4 = .ok (.iload_n 3, 1) := by decide +kernel
theorem dX5_priceAtEntry_5 : decode cX5_priceAtEntry 5 = .ok (.aload_n 0, 1) := by decide +kernel
theorem dX5_priceAtEntry_6 : decode cX5_priceAtEntry 6 = .ok (.getfield 26, 3) := by decide +kernel
theorem dX5_priceAtEntry_9 : decode cX5_priceAtEntry 9 = .ok (.invokeinterface 107 1, 5) := by decide +kernel
theorem dX5_priceAtEntry_14 : decode cX5_priceAtEntry 14 = .ok (.if_icmp .ge 49, 3) := by decide +kernel
theorem dX5_priceAtEntry_17 : decode cX5_priceAtEntry 17 = .ok (.aload_n 0, 1) := by decide +kernel
theorem dX5_priceAtEntry_18 : decode cX5_priceAtEntry 18 = .ok (.getfield 26, 3) := by decide +kernel
theorem dX5_priceAtEntry_21 : decode cX5_priceAtEntry 21 = .ok (.iload_n 3, 1) := by decide +kernel
theorem dX5_priceAtEntry_22 : decode cX5_priceAtEntry 22 = .ok (.invokeinterface 175 2, 5) := by decide +kernel
theorem dX5_priceAtEntry_27 : decode cX5_priceAtEntry 27 = .ok (.checkcast 113, 3) := by decide +kernel
theorem dX5_priceAtEntry_30 : decode cX5_priceAtEntry 30 = .ok (.astore 4, 2) := by decide +kernel
theorem dX5_priceAtEntry_32 : decode cX5_priceAtEntry 32 = .ok (.aload 4, 2) := by decide +kernel
theorem dX5_priceAtEntry_34 : decode cX5_priceAtEntry 34 = .ok (.invokevirtual 222, 3) := by decide +kernel
theorem dX5_priceAtEntry_37 : decode cX5_priceAtEntry 37 = .ok (.ifCond .eq 20, 3) := by decide +kernel
theorem dX5_priceAtEntry_40 : decode cX5_priceAtEntry 40 = .ok (.aload 4, 2) := by decide +kernel
theorem dX5_priceAtEntry_42 : decode cX5_priceAtEntry 42 = .ok (.aload_n 1, 1) := by decide +kernel
theorem dX5_priceAtEntry_43 : decode cX5_priceAtEntry 43 = .ok (.invokevirtual 303, 3) := by decide +kernel
theorem dX5_priceAtEntry_46 : decode cX5_priceAtEntry 46 = .ok (.ifCond .eq 11, 3) := by decide +kernel
theorem dX5_priceAtEntry_49 : decode cX5_priceAtEntry 49 = .ok (.iload_n 2, 1) := by decide +kernel
theorem dX5_priceAtEntry_50 : decode cX5_priceAtEntry 50 = .ok (.aload 4, 2) := by decide +kernel
theorem dX5_priceAtEntry_52 : decode cX5_priceAtEntry 52 = .ok (.getfield 147, 3) := by decide +kernel
theorem dX5_priceAtEntry_55 : decode cX5_priceAtEntry 55 = .ok (.iadd, 1) := by decide +kernel
theorem dX5_priceAtEntry_56 : decode cX5_priceAtEntry 56 = .ok (.istore_n 2, 1) := by decide +kernel
theorem dX5_priceAtEntry_57 : decode cX5_priceAtEntry 57 = .ok (.iinc 3 1, 3) := by decide +kernel
theorem dX5_priceAtEntry_60 : decode cX5_priceAtEntry 60 = .ok (.goto (-56), 3) := by decide +kernel
theorem dX5_priceAtEntry_63 : decode cX5_priceAtEntry 63 = .ok (.iload_n 2, 1) := by decide +kernel
theorem dX5_priceAtEntry_64 : decode cX5_priceAtEntry 64 = .ok (.bipush 100, 2) := by decide +kernel
theorem dX5_priceAtEntry_66 : decode cX5_priceAtEntry 66 = .ok (.iadd, 1) := by decide +kernel
theorem dX5_priceAtEntry_67 : decode cX5_priceAtEntry 67 = .ok (.iconst 1, 1) := by decide +kernel
theorem dX5_priceAtEntry_68 : decode cX5_priceAtEntry 68 = .ok (.isub, 1) := by decide +kernel
theorem dX5_priceAtEntry_69 : decode cX5_priceAtEntry 69 = .ok (.bipush 100, 2) := by decide +kernel
theorem dX5_priceAtEntry_71 : decode cX5_priceAtEntry 71 = .ok (.idiv, 1) := by decide +kernel
theorem dX5_priceAtEntry_72 : decode cX5_priceAtEntry 72 = .ok (.istore_n 3, 1) := by decide +kernel
theorem dX5_priceAtEntry_73 : decode cX5_priceAtEntry 73 = .ok (.iconst 1, 1) := by decide +kernel
theorem dX5_priceAtEntry_74 : decode cX5_priceAtEntry 74 = .ok (.aload_n 0, 1) := by decide +kernel
theorem dX5_priceAtEntry_75 : decode cX5_priceAtEntry 75 = .ok (.getfield 50, 3) := by decide +kernel
theorem dX5_priceAtEntry_78 : decode cX5_priceAtEntry 78 = .ok (.aload_n 0, 1) := by decide +kernel
theorem dX5_priceAtEntry_79 : decode cX5_priceAtEntry 79 = .ok (.getfield 53, 3) := by decide +kernel
theorem dX5_priceAtEntry_82 : decode cX5_priceAtEntry 82 = .ok (.iload_n 3, 1) := by decide +kernel
theorem dX5_priceAtEntry_83 : decode cX5_priceAtEntry 83 = .ok (.imul, 1) := by decide +kernel
theorem dX5_priceAtEntry_84 : decode cX5_priceAtEntry 84 = .ok (.isub, 1) := by decide +kernel
theorem dX5_priceAtEntry_85 : decode cX5_priceAtEntry 85 = .ok (.invokestatic 288, 3) := by decide +kernel
theorem dX5_priceAtEntry_88 : decode cX5_priceAtEntry 88 = .ok (.ireturn, 1) := by decide +kernel
set_option maxRecDepth 20000 in
theorem ggX5_takings_X5_priceAtEntry : GoodIn wsX5_takings wsX5_priceAtEntry := goodIn_r _ [6, 7, 8, 1, 9, 10, 11, 12, 13, 14, 15, 16, 17, 18, 19, 20, 21, 22, 23, 24, 25, 26, 27, 28, 29, 30, 31, 32, 33, 34, 35, 36, 37, 38, 39, 40, 41, 42, 43, 44, 45, 46, 47, 48, 49, 64, 65, 66, 67, 68, 69, 70, 71, 72, 73, 74, 75, 50, 51, 52, 53, 54, 55, 56, 57, 58, 59, 60, 61, 62, 63, 76, 77, 78] rfl (by decide +kernel)
set_option maxRecDepth 20000 in
theorem gX5_takings_X5_priceAtEntry : GoodIn wsX5_takings (wsV RX5 230 RX5 yX5_priceAtEntry wsX5_priceAtEntry) := goodIn_app (goodIn_of _ (by decide +kernel)) ggX5_takings_X5_priceAtEntry
theorem dX5_takings_0 : decode cX5_takings 0 = .ok (.aload_n 1, 1) := by decide +kernel
theorem dX5_takings_1 : decode cX5_takings 1 = .ok (.getfield 147, 3) := by decide +kernel
theorem dX5_takings_4 : decode cX5_takings 4 = .ok (.i2l, 1) := by decide +kernel
theorem dX5_takings_5 : decode cX5_takings 5 = .ok (.aload_n 0, 1) := by decide +kernel
theorem dX5_takings_6 : decode cX5_takings 6 = .ok (.aload_n 1, 1) := by decide +kernel
theorem dX5_takings_7 : decode cX5_takings 7 = .ok (.invokevirtual 230, 3) := by decide +kernel
theorem dX5_takings_10 : decode cX5_takings 10 = .ok (.i2l, 1) := by decide +kernel
theorem dX5_takings_11 : decode cX5_takings 11 = .ok (.lmul, 1) := by decide +kernel
theorem dX5_takings_12 : decode cX5_takings 12 = .ok (.lreturn, 1) := by decide +kernel
theorem dX6_init_0 : decode cX6_init 0 = .ok (.aload_n 0, 1) := by decide +kernel
theorem dX6_init_1 : decode cX6_init 1 = .ok (.invokespecial 1, 3) := by decide +kernel
theorem dX6_init_4 : decode cX6_init 4 = .ok (.aload_n 0, 1) := by decide +kernel
theorem dX6_init_5 : decode cX6_init 5 = .ok (.bipush 6, 2) := by decide +kernel
theorem dX6_init_7 : decode cX6_init 7 = .ok (.newarray .int, 2) := by decide +kernel
theorem dX6_init_9 : decode cX6_init 9 = .ok (.putfield 7, 3) := by decide +kernel
theorem dX6_init_12 : decode cX6_init 12 = .ok (.aload_n 0, 1) := by decide +kernel
theorem dX6_init_13 : decode cX6_init 13 = .ok (.sipush 160, 3) := by decide +kernel
theorem dX6_init_16 : decode cX6_init 16 = .ok (.newarray .boolean, 2) := by decide +kernel
theorem dX6_init_18 : decode cX6_init 18 = .ok (.putfield 13, 3) := by decide +kernel
theorem dX6_init_21 : decode cX6_init 21 = .ok (.aload_n 0, 1) := by decide +kernel
theorem dX6_init_22 : decode cX6_init 22 = .ok (.bipush 12, 2) := by decide +kernel
theorem dX6_init_24 : decode cX6_init 24 = .ok (.newarray .boolean, 2) := by decide +kernel
theorem dX6_init_26 : decode cX6_init 26 = .ok (.putfield 17, 3) := by decide +kernel
theorem dX6_init_29 : decode cX6_init 29 = .ok (.aload_n 0, 1) := by decide +kernel
theorem dX6_init_30 : decode cX6_init 30 = .ok (.sipush 1920, 3) := by decide +kernel
theorem dX6_init_33 : decode cX6_init 33 = .ok (.newarray .int, 2) := by decide +kernel
theorem dX6_init_35 : decode cX6_init 35 = .ok (.putfield 20, 3) := by decide +kernel
theorem dX6_init_38 : decode cX6_init 38 = .ok (.aload_n 0, 1) := by decide +kernel
theorem dX6_init_39 : decode cX6_init 39 = .ok (.sipush 160, 3) := by decide +kernel
theorem dX6_init_42 : decode cX6_init 42 = .ok (.newarray .int, 2) := by decide +kernel
theorem dX6_init_44 : decode cX6_init 44 = .ok (.putfield 23, 3) := by decide +kernel
theorem dX6_init_47 : decode cX6_init 47 = .ok (.aload_n 0, 1) := by decide +kernel
theorem dX6_init_48 : decode cX6_init 48 = .ok (.bipush 8, 2) := by decide +kernel
theorem dX6_init_50 : decode cX6_init 50 = .ok (.newarray .int, 2) := by decide +kernel
theorem dX6_init_52 : decode cX6_init 52 = .ok (.putfield 26, 3) := by decide +kernel
theorem dX6_init_55 : decode cX6_init 55 = .ok (.aload_n 0, 1) := by decide +kernel
theorem dX6_init_56 : decode cX6_init 56 = .ok (.bipush 8, 2) := by decide +kernel
theorem dX6_init_58 : decode cX6_init 58 = .ok (.newarray .int, 2) := by decide +kernel
theorem dX6_init_60 : decode cX6_init 60 = .ok (.putfield 29, 3) := by decide +kernel
theorem dX6_init_63 : decode cX6_init 63 = .ok (.aload_n 0, 1) := by decide +kernel
theorem dX6_init_64 : decode cX6_init 64 = .ok (.bipush 8, 2) := by decide +kernel
theorem dX6_init_66 : decode cX6_init 66 = .ok (.newarray .int, 2) := by decide +kernel
theorem dX6_init_68 : decode cX6_init 68 = .ok (.putfield 32, 3) := by decide +kernel
theorem dX6_init_71 : decode cX6_init 71 = .ok (.aload_n 0, 1) := by decide +kernel
theorem dX6_init_72 : decode cX6_init 72 = .ok (.bipush 8, 2) := by decide +kernel
theorem dX6_init_74 : decode cX6_init 74 = .ok (.newarray .int, 2) := by decide +kernel
theorem dX6_init_76 : decode cX6_init 76 = .ok (.putfield 35, 3) := by decide +kernel
theorem dX6_init_79 : decode cX6_init 79 = .ok (.aload_n 0, 1) := by decide +kernel
theorem dX6_init_80 : decode cX6_init 80 = .ok (.bipush 8, 2) := by decide +kernel
theorem dX6_init_82 : decode cX6_init 82 = .ok (.newarray .int, 2) := by decide +kernel
theorem dX6_init_84 : decode cX6_init 84 = .ok (.putfield 38, 3) := by decide +kernel
theorem dX6_init_87 : decode cX6_init 87 = .ok (.aload_n 0, 1) := by decide +kernel
theorem dX6_init_88 : decode cX6_init 88 = .ok (.bipush 8, 2) := by decide +kernel
theorem dX6_init_90 : decode cX6_init 90 = .ok (.newarray .int, 2) := by decide +kernel
theorem dX6_init_92 : decode cX6_init 92 = .ok (.putfield 41, 3) := by decide +kernel
theorem dX6_init_95 : decode cX6_init 95 = .ok (.aload_n 0, 1) := by decide +kernel
theorem dX6_init_96 : decode cX6_init 96 = .ok (.bipush 8, 2) := by decide +kernel
theorem dX6_init_98 : decode cX6_init 98 = .ok (.newarray .int, 2) := by decide +kernel
theorem dX6_init_100 : decode cX6_init 100 = .ok (.putfield 44, 3) := by decide +kernel
theorem dX6_init_103 : decode cX6_init 103 = .ok (.aload_n 0, 1) := by decide +kernel
theorem dX6_init_104 : decode cX6_init 104 = .ok (.bipush 8, 2) := by decide +kernel
theorem dX6_init_106 : decode cX6_init 106 = .ok (.newarray .int, 2) := by decide +kernel
theorem dX6_init_108 : decode cX6_init 108 = .ok (.putfield 47, 3) := by decide +kernel
theorem dX6_init_111 : decode cX6_init 111 = .ok (.aload_n 0, 1) := by decide +kernel
theorem dX6_init_112 : decode cX6_init 112 = .ok (.bipush 8, 2) := by decide +kernel
theorem dX6_init_114 : decode cX6_init 114 = .ok (.newarray .int, 2) := by decide +kernel
theorem dX6_init_116 : decode cX6_init 116 = .ok (.putfield 50, 3) := by decide +kernel
theorem dX6_init_119 : decode cX6_init 119 = .ok (.aload_n 0, 1) := by decide +kernel
theorem dX6_init_120 : decode cX6_init 120 = .ok (.sipush 960, 3) := by decide +kernel
theorem dX6_init_123 : decode cX6_init 123 = .ok (.newarray .int, 2) := by decide +kernel
theorem dX6_init_125 : decode cX6_init 125 = .ok (.putfield 53, 3) := by decide +kernel
theorem dX6_init_128 : decode cX6_init 128 = .ok (.aload_n 0, 1) := by decide +kernel
theorem dX6_init_129 : decode cX6_init 129 = .ok (.bipush 8, 2) := by decide +kernel
theorem dX6_init_131 : decode cX6_init 131 = .ok (.newarray .int, 2) := by decide +kernel
theorem dX6_init_133 : decode cX6_init 133 = .ok (.putfield 56, 3) := by decide +kernel
theorem dX6_init_136 : decode cX6_init 136 = .ok (.aload_n 0, 1) := by decide +kernel
theorem dX6_init_137 : decode cX6_init 137 = .ok (.bipush 8, 2) := by decide +kernel
theorem dX6_init_139 : decode cX6_init 139 = .ok (.newarray .int, 2) := by decide +kernel
theorem dX6_init_141 : decode cX6_init 141 = .ok (.putfield 59, 3) := by decide +kernel
theorem dX6_init_144 : decode cX6_init 144 = .ok (.aload_n 0, 1) := by decide +kernel
theorem dX6_init_145 : decode cX6_init 145 = .ok (.sipush 160, 3) := by decide +kernel
theorem dX6_init_148 : decode cX6_init 148 = .ok (.newarray .int, 2) := by decide +kernel
theorem dX6_init_150 : decode cX6_init 150 = .ok (.putfield 62, 3) := by decide +kernel
theorem dX6_init_153 : decode cX6_init 153 = .ok (.aload_n 0, 1) := by decide +kernel
theorem dX6_init_154 : decode cX6_init 154 = .ok (.sipush 160, 3) := by decide +kernel
theorem dX6_init_157 : decode cX6_init 157 = .ok (.newarray .boolean, 2) := by decide +kernel
theorem dX6_init_159 : decode cX6_init 159 = .ok (.putfield 65, 3) := by decide +kernel
theorem dX6_init_162 : decode cX6_init 162 = .ok (.aload_n 0, 1) := by decide +kernel
theorem dX6_init_163 : decode cX6_init 163 = .ok (.bipush 60, 2) := by decide +kernel
theorem dX6_init_165 : decode cX6_init 165 = .ok (.newarray .int, 2) := by decide +kernel
theorem dX6_init_167 : decode cX6_init 167 = .ok (.putfield 68, 3) := by decide +kernel
theorem dX6_init_170 : decode cX6_init 170 = .ok (.aload_n 0, 1) := by decide +kernel
theorem dX6_init_171 : decode cX6_init 171 = .ok (.bipush 60, 2) := by decide +kernel
theorem dX6_init_173 : decode cX6_init 173 = .ok (.newarray .int, 2) := by decide +kernel
theorem dX6_init_175 : decode cX6_init 175 = .ok (.putfield 71, 3) := by decide +kernel
theorem dX6_init_178 : decode cX6_init 178 = .ok (.aload_n 0, 1) := by decide +kernel
theorem dX6_init_179 : decode cX6_init 179 = .ok (.bipush 60, 2) := by decide +kernel
theorem dX6_init_181 : decode cX6_init 181 = .ok (.newarray .int, 2) := by decide +kernel
theorem dX6_init_183 : decode cX6_init 183 = .ok (.putfield 74, 3) := by decide +kernel
theorem dX6_init_186 : decode cX6_init 186 = .ok (.aload_n 0, 1) := by decide +kernel
theorem dX6_init_187 : decode cX6_init 187 = .ok (.bipush 100, 2) := by decide +kernel
theorem dX6_init_189 : decode cX6_init 189 = .ok (.putfield 77, 3) := by decide +kernel
theorem dX6_init_192 : decode cX6_init 192 = .ok (.aload_n 0, 1) := by decide +kernel
theorem dX6_init_193 : decode cX6_init 193 = .ok (.iconst 1, 1) := by decide +kernel
theorem dX6_init_194 : decode cX6_init 194 = .ok (.putfield 81, 3) := by decide +kernel
theorem dX6_init_197 : decode cX6_init 197 = .ok (.return_, 1) := by decide +kernel
theorem dX6_in_0 : decode cX6_in 0 = .ok (.iload_n 0, 1) := by decide +kernel
theorem dX6_in_1 : decode cX6_in 1 = .ok (.iload_n 1, 1) := by decide +kernel
theorem dX6_in_2 : decode cX6_in 2 = .ok (.if_icmp .lt 12, 3) := by decide +kernel
theorem dX6_in_5 : decode cX6_in 5 = .ok (.iload_n 0, 1) := by decide +kernel
theorem dX6_in_6 : decode cX6_in 6 = .ok (.iload_n 2, 1) := by decide +kernel
theorem dX6_in_7 : decode cX6_in 7 = .ok (.if_icmp .gt 7, 3) := by decide +kernel
theorem dX6_in_10 : decode cX6_in 10 = .ok (.iconst 1, 1) := by decide +kernel
theorem dX6_in_11 : decode cX6_in 11 = .ok (.goto 4, 3) := by decide +kernel
theorem dX6_in_14 : decode cX6_in 14 = .ok (.iconst 0, 1) := by decide +kernel
theorem dX6_in_15 : decode cX6_in 15 = .ok (.ireturn, 1) := by decide +kernel
theorem dX6_meets_0 : decode cX6_meets 0 = .ok (.aload_n 0, 1) := by decide +kernel
theorem dX6_meets_1 : decode cX6_meets 1 = .ok (.iload_n 1, 1) := by decide +kernel
theorem dX6_meets_2 : decode cX6_meets 2 = .ok (.putfield 84, 3) := by decide +kernel
theorem dX6_meets_5 : decode cX6_meets 5 = .ok (.aload_n 0, 1) := by decide +kernel
theorem dX6_meets_6 : decode cX6_meets 6 = .ok (.getfield 7, 3) := by decide +kernel
theorem dX6_meets_9 : decode cX6_meets 9 = .ok (.iload_n 1, 1) := by decide +kernel
theorem dX6_meets_10 : decode cX6_meets 10 = .ok (.dup2, 1) := by decide +kernel
theorem dX6_meets_11 : decode cX6_meets 11 = .ok (.iaload, 1) := by decide +kernel
theorem dX6_meets_12 : decode cX6_meets 12 = .ok (.iconst 1, 1) := by decide +kernel
theorem dX6_meets_13 : decode cX6_meets 13 = .ok (.iadd, 1) := by decide +kernel
theorem dX6_meets_14 : decode cX6_meets 14 = .ok (.iastore, 1) := by decide +kernel
theorem dX6_meets_15 : decode cX6_meets 15 = .ok (.bipush (-3), 2) := by decide +kernel
theorem dX6_meets_17 : decode cX6_meets 17 = .ok (.ireturn, 1) := by decide +kernel
set_option maxRecDepth 20000 in
theorem ggX6_isCell_X6_in : GoodIn wsX6_isCell wsX6_in := goodIn_r _ [4] rfl (by decide +kernel)
set_option maxRecDepth 20000 in
theorem gX6_isCell_X6_in : GoodIn wsX6_isCell (va_wsS RX6 87 yX6_in wsX6_in) := goodIn_app (goodIn_of _ (by decide +kernel)) ggX6_isCell_X6_in
theorem dX6_isCell_0 : decode cX6_isCell 0 = .ok (.iload_n 0, 1) := by decide +kernel
theorem dX6_isCell_1 : decode cX6_isCell 1 = .ok (.iconst 0, 1) := by decide +kernel
theorem dX6_isCell_2 : decode cX6_isCell 2 = .ok (.sipush 159, 3) := by decide +kernel
theorem dX6_isCell_5 : decode cX6_isCell 5 = .ok (.invokestatic 87, 3) := by decide +kernel
theorem dX6_isCell_8 : decode cX6_isCell 8 = .ok (.ireturn, 1) := by decide +kernel
set_option maxRecDepth 20000 in
theorem ggX6_isMonth_X6_in : GoodIn wsX6_isMonth wsX6_in := goodIn_r _ [4] rfl (by decide +kernel)
set_option maxRecDepth 20000 in
theorem gX6_isMonth_X6_in : GoodIn wsX6_isMonth (va_wsS RX6 87 yX6_in wsX6_in) := goodIn_app (goodIn_of _ (by decide +kernel)) ggX6_isMonth_X6_in
theorem dX6_isMonth_0 : decode cX6_isMonth 0 = .ok (.iload_n 0, 1) := by decide +kernel
theorem dX6_isMonth_1 : decode cX6_isMonth 1 = .ok (.iconst 0, 1) := by decide +kernel
theorem dX6_isMonth_2 : decode cX6_isMonth 2 = .ok (.bipush 11, 2) := by decide +kernel
theorem dX6_isMonth_4 : decode cX6_isMonth 4 = .ok (.invokestatic 87, 3) := by decide +kernel
theorem dX6_isMonth_7 : decode cX6_isMonth 7 = .ok (.ireturn, 1) := by decide +kernel
set_option maxRecDepth 20000 in
theorem ggX6_land_X6_isCell : GoodIn wsX6_land wsX6_isCell := goodIn_r _ [5, 6, 7, 4, 8] rfl (by decide +kernel)
set_option maxRecDepth 20000 in
theorem gX6_land_X6_isCell : GoodIn wsX6_land (va_wsS RX6 91 yX6_isCell wsX6_isCell) := goodIn_app (goodIn_of _ (by decide +kernel)) ggX6_land_X6_isCell
theorem dX6_land_0 : decode cX6_land 0 = .ok (.iload_n 1, 1) := by decide +kernel
theorem dX6_land_1 : decode cX6_land 1 = .ok (.invokestatic 91, 3) := by decide +kernel
theorem dX6_land_4 : decode cX6_land 4 = .ok (.ifCond .ne 5, 3) := by decide +kernel
theorem dX6_land_7 : decode cX6_land 7 = .ok (.iconst (-1), 1) := by decide +kernel
theorem dX6_land_8 : decode cX6_land 8 = .ok (.ireturn, 1) := by decide +kernel
theorem dX6_land_9 : decode cX6_land 9 = .ok (.aload_n 0, 1) := by decide +kernel
theorem dX6_land_10 : decode cX6_land 10 = .ok (.getfield 13, 3) := by decide +kernel
theorem dX6_land_13 : decode cX6_land 13 = .ok (.iload_n 1, 1) := by decide +kernel
theorem dX6_land_14 : decode cX6_land 14 = .ok (.baload, 1) := by decide +kernel
theorem dX6_land_15 : decode cX6_land 15 = .ok (.ifCond .eq 7, 3) := by decide +kernel
theorem dX6_land_18 : decode cX6_land 18 = .ok (.iconst 1, 1) := by decide +kernel
theorem dX6_land_19 : decode cX6_land 19 = .ok (.goto 4, 3) := by decide +kernel
theorem dX6_land_22 : decode cX6_land 22 = .ok (.iconst 0, 1) := by decide +kernel
theorem dX6_land_23 : decode cX6_land 23 = .ok (.istore_n 3, 1) := by decide +kernel
theorem dX6_land_24 : decode cX6_land 24 = .ok (.aload_n 0, 1) := by decide +kernel
theorem dX6_land_25 : decode cX6_land 25 = .ok (.getfield 13, 3) := by decide +kernel
theorem dX6_land_28 : decode cX6_land 28 = .ok (.iload_n 1, 1) := by decide +kernel
theorem dX6_land_29 : decode cX6_land 29 = .ok (.iload_n 2, 1) := by decide +kernel
theorem dX6_land_30 : decode cX6_land 30 = .ok (.bastore, 1) := by decide +kernel
theorem dX6_land_31 : decode cX6_land 31 = .ok (.iload_n 3, 1) := by decide +kernel
theorem dX6_land_32 : decode cX6_land 32 = .ok (.ireturn, 1) := by decide +kernel
set_option maxRecDepth 20000 in
theorem ggX6_looked_X6_isMonth : GoodIn wsX6_looked wsX6_isMonth := goodIn_r _ [5, 6, 7, 4, 8] rfl (by decide +kernel)
set_option maxRecDepth 20000 in
theorem gX6_looked_X6_isMonth : GoodIn wsX6_looked (va_wsS RX6 95 yX6_isMonth wsX6_isMonth) := goodIn_app (goodIn_of _ (by decide +kernel)) ggX6_looked_X6_isMonth
set_option maxRecDepth 20000 in
theorem ggX6_looked_X6_meets : GoodIn wsX6_looked wsX6_meets := goodIn_r _ [12, 13, 14, 15, 16, 17, 18, 19, 20, 21, 22, 23, 24, 25, 26, 27, 28, 29, 30, 31, 32, 33, 34, 35, 36, 37, 38, 39, 40, 41, 42, 43, 44, 45] rfl (by decide +kernel)
set_option maxRecDepth 20000 in
theorem gX6_looked_X6_meets : GoodIn wsX6_looked (wsV RX6 98 RX6 yX6_meets wsX6_meets) := goodIn_app (goodIn_of _ (by decide +kernel)) ggX6_looked_X6_meets
theorem dX6_looked_0 : decode cX6_looked 0 = .ok (.iload_n 1, 1) := by decide +kernel
theorem dX6_looked_1 : decode cX6_looked 1 = .ok (.invokestatic 95, 3) := by decide +kernel
theorem dX6_looked_4 : decode cX6_looked 4 = .ok (.ifCond .ne 7, 3) := by decide +kernel
theorem dX6_looked_7 : decode cX6_looked 7 = .ok (.iconst (-1), 1) := by decide +kernel
theorem dX6_looked_8 : decode cX6_looked 8 = .ok (.goto 21, 3) := by decide +kernel
theorem dX6_looked_11 : decode cX6_looked 11 = .ok (.aload_n 0, 1) := by decide +kernel
theorem dX6_looked_12 : decode cX6_looked 12 = .ok (.getfield 17, 3) := by decide +kernel
theorem dX6_looked_15 : decode cX6_looked 15 = .ok (.iload_n 1, 1) := by decide +kernel
theorem dX6_looked_16 : decode cX6_looked 16 = .ok (.baload, 1) := by decide +kernel
theorem dX6_looked_17 : decode cX6_looked 17 = .ok (.ifCond .eq 7, 3) := by decide +kernel
theorem dX6_looked_20 : decode cX6_looked 20 = .ok (.iconst 0, 1) := by decide +kernel
theorem dX6_looked_21 : decode cX6_looked 21 = .ok (.goto 8, 3) := by decide +kernel
theorem dX6_looked_24 : decode cX6_looked 24 = .ok (.aload_n 0, 1) := by decide +kernel
theorem dX6_looked_25 : decode cX6_looked 25 = .ok (.iconst 1, 1) := by decide +kernel
theorem dX6_looked_26 : decode cX6_looked 26 = .ok (.invokevirtual 98, 3) := by decide +kernel
theorem dX6_looked_29 : decode cX6_looked 29 = .ok (.ireturn, 1) := by decide +kernel
set_option maxRecDepth 20000 in
theorem ggX6_chart_X6_isMonth : GoodIn wsX6_chart wsX6_isMonth := goodIn_r _ [6, 7, 8, 5, 9] rfl (by decide +kernel)
set_option maxRecDepth 20000 in
theorem gX6_chart_X6_isMonth : GoodIn wsX6_chart (va_wsS RX6 95 yX6_isMonth wsX6_isMonth) := goodIn_app (goodIn_of _ (by decide +kernel)) ggX6_chart_X6_isMonth
theorem dX6_chart_0 : decode cX6_chart 0 = .ok (.iload_n 1, 1) := by decide +kernel
theorem dX6_chart_1 : decode cX6_chart 1 = .ok (.invokestatic 95, 3) := by decide +kernel
theorem dX6_chart_4 : decode cX6_chart 4 = .ok (.ifCond .ne 5, 3) := by decide +kernel
theorem dX6_chart_7 : decode cX6_chart 7 = .ok (.iconst (-1), 1) := by decide +kernel
theorem dX6_chart_8 : decode cX6_chart 8 = .ok (.ireturn, 1) := by decide +kernel
theorem dX6_chart_9 : decode cX6_chart 9 = .ok (.aload_n 0, 1) := by decide +kernel
theorem dX6_chart_10 : decode cX6_chart 10 = .ok (.getfield 17, 3) := by decide +kernel
theorem dX6_chart_13 : decode cX6_chart 13 = .ok (.iload_n 1, 1) := by decide +kernel
theorem dX6_chart_14 : decode cX6_chart 14 = .ok (.baload, 1) := by decide +kernel
theorem dX6_chart_15 : decode cX6_chart 15 = .ok (.ifCond .eq 7, 3) := by decide +kernel
theorem dX6_chart_18 : decode cX6_chart 18 = .ok (.iconst 1, 1) := by decide +kernel
theorem dX6_chart_19 : decode cX6_chart 19 = .ok (.goto 4, 3) := by decide +kernel
theorem dX6_chart_22 : decode cX6_chart 22 = .ok (.iconst 0, 1) := by decide +kernel
theorem dX6_chart_23 : decode cX6_chart 23 = .ok (.istore_n 2, 1) := by decide +kernel
theorem dX6_chart_24 : decode cX6_chart 24 = .ok (.aload_n 0, 1) := by decide +kernel
theorem dX6_chart_25 : decode cX6_chart 25 = .ok (.getfield 17, 3) := by decide +kernel
theorem dX6_chart_28 : decode cX6_chart 28 = .ok (.iload_n 1, 1) := by decide +kernel
theorem dX6_chart_29 : decode cX6_chart 29 = .ok (.iconst 1, 1) := by decide +kernel
theorem dX6_chart_30 : decode cX6_chart 30 = .ok (.bastore, 1) := by decide +kernel
theorem dX6_chart_31 : decode cX6_chart 31 = .ok (.iconst 0, 1) := by decide +kernel
theorem dX6_chart_32 : decode cX6_chart 32 = .ok (.istore_n 3, 1) := by decide +kernel
theorem dX6_chart_33 : decode cX6_chart 33 = .ok (.iload_n 3, 1) := by decide +kernel
theorem dX6_chart_34 : decode cX6_chart 34 = .ok (.sipush 160, 3) := by decide +kernel
theorem dX6_chart_37 : decode cX6_chart 37 = .ok (.if_icmp .ge 22, 3) := by decide +kernel
theorem dX6_chart_40 : decode cX6_chart 40 = .ok (.aload_n 0, 1) := by decide +kernel
theorem dX6_chart_41 : decode cX6_chart 41 = .ok (.getfield 20, 3) := by decide +kernel
theorem dX6_chart_44 : decode cX6_chart 44 = .ok (.sipush 160, 3) := by decide +kernel
theorem dX6_chart_47 : decode cX6_chart 47 = .ok (.iload_n 1, 1) := by decide +kernel
theorem dX6_chart_48 : decode cX6_chart 48 = .ok (.imul, 1) := by decide +kernel
theorem dX6_chart_49 : decode cX6_chart 49 = .ok (.iload_n 3, 1) := by decide +kernel
theorem dX6_chart_50 : decode cX6_chart 50 = .ok (.iadd, 1) := by decide +kernel
theorem dX6_chart_51 : decode cX6_chart 51 = .ok (.iconst 0, 1) := by decide +kernel
theorem dX6_chart_52 : decode cX6_chart 52 = .ok (.iastore, 1) := by decide +kernel
theorem dX6_chart_53 : decode cX6_chart 53 = .ok (.iinc 3 1, 3) := by decide +kernel
theorem dX6_chart_56 : decode cX6_chart 56 = .ok (.goto (-23), 3) := by decide +kernel
theorem dX6_chart_59 : decode cX6_chart 59 = .ok (.iload_n 2, 1) := by decide +kernel
theorem dX6_chart_60 : decode cX6_chart 60 = .ok (.ireturn, 1) := by decide +kernel
set_option maxRecDepth 20000 in
theorem ggX6_wind_X6_looked : GoodIn wsX6_wind wsX6_looked := goodIn_r _ [6, 7, 8, 9, 5, 10, 11, 12, 13, 14, 15, 16, 17, 18, 19, 23, 24, 25, 26, 27, 28, 29, 30, 31, 32, 33, 34, 35, 36, 37, 38, 39, 40, 41, 42, 43, 44, 45, 46, 47, 48, 49, 50, 51, 52, 53] rfl (by decide +kernel)
set_option maxRecDepth 20000 in
theorem gX6_wind_X6_looked : GoodIn wsX6_wind (wsV RX6 102 RX6 yX6_looked wsX6_looked) := goodIn_app (goodIn_of _ (by decide +kernel)) ggX6_wind_X6_looked
set_option maxRecDepth 20000 in
theorem ggX6_wind_X6_isCell : GoodIn wsX6_wind wsX6_isCell := goodIn_r _ [22, 11, 12, 5, 13] rfl (by decide +kernel)
set_option maxRecDepth 20000 in
theorem gX6_wind_X6_isCell : GoodIn wsX6_wind (va_wsS RX6 91 yX6_isCell wsX6_isCell) := goodIn_app (goodIn_of _ (by decide +kernel)) ggX6_wind_X6_isCell
set_option maxRecDepth 20000 in
theorem ggX6_wind_X6_meets : GoodIn wsX6_wind wsX6_meets := goodIn_r _ [17, 18, 19, 23, 24, 25, 26, 27, 28, 29, 30, 31, 32, 33, 34, 35, 36, 37, 38, 39, 40, 41, 42, 43, 44, 45, 46, 47, 48, 49, 50, 51, 52, 53] rfl (by decide +kernel)
