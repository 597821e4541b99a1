theorem dX3_init_83 : decode cX3_init 83 = .ok (.aload_n 0, 1) := by decide +kernel
theorem dX3_init_84 : decode cX3_init 84 = .ok (.iload 4, 2) := by decide +kernel
theorem dX3_init_86 : decode cX3_init 86 = .ok (.putfield 55, 3) := by decide +kernel
theorem dX3_init_89 : decode cX3_init 89 = .ok (.return_, 1) := by decide +kernel
theorem dX3_isHome_0 : decode cX3_isHome 0 = .ok (.aload_n 0, 1) := by decide +kernel
theorem dX3_isHome_1 : decode cX3_isHome 1 = .ok (.getfield 34, 3) := by decide +kernel
theorem dX3_isHome_4 : decode cX3_isHome 4 = .ok (.bipush (-9), 2) := by decide +kernel
theorem dX3_isHome_6 : decode cX3_isHome 6 = .ok (.if_icmp .eq 7, 3) := by decide +kernel
theorem dX3_isHome_9 : decode cX3_isHome 9 = .ok (.iconst 1, 1) := by decide +kernel
theorem dX3_isHome_10 : decode cX3_isHome 10 = .ok (.goto 4, 3) := by decide +kernel
theorem dX3_isHome_13 : decode cX3_isHome 13 = .ok (.iconst 0, 1) := by decide +kernel
theorem dX3_isHome_14 : decode cX3_isHome 14 = .ok (.ireturn, 1) := by decide +kernel
theorem dX3_isOf_0 : decode cX3_isOf 0 = .ok (.aload_n 0, 1) := by decide +kernel
theorem dX3_isOf_1 : decode cX3_isOf 1 = .ok (.getfield 49, 3) := by decide +kernel
theorem dX3_isOf_4 : decode cX3_isOf 4 = .ok (.iload_n 1, 1) := by decide +kernel
theorem dX3_isOf_5 : decode cX3_isOf 5 = .ok (.if_icmp .eq 16, 3) := by decide +kernel
theorem dX3_isOf_8 : decode cX3_isOf 8 = .ok (.aload_n 0, 1) := by decide +kernel
theorem dX3_isOf_9 : decode cX3_isOf 9 = .ok (.getfield 49, 3) := by decide +kernel
theorem dX3_isOf_12 : decode cX3_isOf 12 = .ok (.iconst 3, 1) := by decide +kernel
theorem dX3_isOf_13 : decode cX3_isOf 13 = .ok (.if_icmp .ne 12, 3) := by decide +kernel
theorem dX3_isOf_16 : decode cX3_isOf 16 = .ok (.iload_n 1, 1) := by decide +kernel
theorem dX3_isOf_17 : decode cX3_isOf 17 = .ok (.iconst 1, 1) := by decide +kernel
theorem dX3_isOf_18 : decode cX3_isOf 18 = .ok (.if_icmp .ne 7, 3) := by decide +kernel
theorem dX3_isOf_21 : decode cX3_isOf 21 = .ok (.iconst 1, 1) := by decide +kernel
theorem dX3_isOf_22 : decode cX3_isOf 22 = .ok (.goto 4, 3) := by decide +kernel
theorem dX3_isOf_25 : decode cX3_isOf 25 = .ok (.iconst 0, 1) := by decide +kernel
theorem dX3_isOf_26 : decode cX3_isOf 26 = .ok (.ireturn, 1) := by decide +kernel
set_option maxRecDepth 20000 in
theorem ggX3_speedIn_X5_eighthsBetween : GoodIn wsX3_speedIn wsX5_eighthsBetween := goodIn_r _ [9, 10, 11, 5, 12, 13, 14, 15] rfl (by decide +kernel)
set_option maxRecDepth 20000 in
theorem gX3_speedIn_X5_eighthsBetween_n58 : GoodIn wsX3_speedIn (wsX5_eighthsBetween) := ggX3_speedIn_X5_eighthsBetween
set_option maxRecDepth 20000 in
theorem ggX3_speedIn_X5_strengthOf : GoodIn wsX3_speedIn wsX5_strengthOf := goodIn_r _ [17] rfl (by decide +kernel)
set_option maxRecDepth 20000 in
theorem gX3_speedIn_X5_strengthOf_n62 : GoodIn wsX3_speedIn (wsX5_strengthOf) := ggX3_speedIn_X5_strengthOf
set_option maxRecDepth 20000 in
theorem ggX3_speedIn_X3_sailSpeed : GoodIn wsX3_speedIn wsX3_sailSpeed := goodIn_r _ [22, 23, 24, 25, 21, 26, 1, 27, 28, 29, 30, 31, 32, 33, 34, 35, 36, 37, 38, 39, 40] rfl (by decide +kernel)
set_option maxRecDepth 20000 in
theorem gX3_speedIn_X3_sailSpeed : GoodIn wsX3_speedIn (wsV RX3 66 RX3 yX3_sailSpeed wsX3_sailSpeed) := goodIn_app (goodIn_of _ (by decide +kernel)) ggX3_speedIn_X3_sailSpeed
theorem dX3_speedIn_0 : decode cX3_speedIn 0 = .ok (.aload_n 0, 1) := by decide +kernel
theorem dX3_speedIn_1 : decode cX3_speedIn 1 = .ok (.getfield 49, 3) := by decide +kernel
theorem dX3_speedIn_4 : decode cX3_speedIn 4 = .ok (.iconst 2, 1) := by decide +kernel
theorem dX3_speedIn_5 : decode cX3_speedIn 5 = .ok (.if_icmp .ne 8, 3) := by decide +kernel
theorem dX3_speedIn_8 : decode cX3_speedIn 8 = .ok (.bipush 8, 2) := by decide +kernel
theorem dX3_speedIn_10 : decode cX3_speedIn 10 = .ok (.goto 19, 3) := by decide +kernel
theorem dX3_speedIn_13 : decode cX3_speedIn 13 = .ok (.aload_n 0, 1) := by decide +kernel
theorem dX3_speedIn_14 : decode cX3_speedIn 14 = .ok (.iload_n 1, 1) := by decide +kernel
theorem dX3_speedIn_15 : decode cX3_speedIn 15 = .ok (.iload_n 2, 1) := by decide +kernel
theorem dX3_speedIn_16 : decode cX3_speedIn 16 = .ok (.bipush 10, 2) := by decide +kernel
theorem dX3_speedIn_18 : decode cX3_speedIn 18 = .ok (.idiv, 1) := by decide +kernel
theorem dX3_speedIn_19 : decode cX3_speedIn 19 = .ok (.invokestatic 58, 3) := by decide +kernel
theorem dX3_speedIn_22 : decode cX3_speedIn 22 = .ok (.iload_n 2, 1) := by decide +kernel
theorem dX3_speedIn_23 : decode cX3_speedIn 23 = .ok (.invokestatic 62, 3) := by decide +kernel
theorem dX3_speedIn_26 : decode cX3_speedIn 26 = .ok (.invokevirtual 66, 3) := by decide +kernel
theorem dX3_speedIn_29 : decode cX3_speedIn 29 = .ok (.istore_n 3, 1) := by decide +kernel
theorem dX3_speedIn_30 : decode cX3_speedIn 30 = .ok (.iconst 0, 1) := by decide +kernel
theorem dX3_speedIn_31 : decode cX3_speedIn 31 = .ok (.iload_n 3, 1) := by decide +kernel
theorem dX3_speedIn_32 : decode cX3_speedIn 32 = .ok (.aload_n 0, 1) := by decide +kernel
theorem dX3_speedIn_33 : decode cX3_speedIn 33 = .ok (.getfield 28, 3) := by decide +kernel
theorem dX3_speedIn_36 : decode cX3_speedIn 36 = .ok (.isub, 1) := by decide +kernel
theorem dX3_speedIn_37 : decode cX3_speedIn 37 = .ok (.invokestatic 69, 3) := by decide +kernel
theorem dX3_speedIn_40 : decode cX3_speedIn 40 = .ok (.ireturn, 1) := by decide +kernel
set_option maxRecDepth 20000 in
theorem ggX3_sailSpeed_X3_moreAcrossTheWind : GoodIn wsX3_sailSpeed wsX3_moreAcrossTheWind := goodIn_r _ [5, 6, 7, 8, 9, 10, 11, 12, 13, 14, 15, 16, 17, 18, 19, 20] rfl (by decide +kernel)
set_option maxRecDepth 20000 in
theorem gX3_sailSpeed_X3_moreAcrossTheWind : GoodIn wsX3_sailSpeed (wsV RX3 74 RX3 yX3_moreAcrossTheWind wsX3_moreAcrossTheWind) := goodIn_app (goodIn_of _ (by decide +kernel)) ggX3_sailSpeed_X3_moreAcrossTheWind
theorem dX3_sailSpeed_0 : decode cX3_sailSpeed 0 = .ok (.iload_n 1, 1) := by decide +kernel
theorem dX3_sailSpeed_1 : decode cX3_sailSpeed 1 = .ok (.tableswitch 55 1 4 #[31, 33, 42, 51], 31) := by decide +kernel
theorem dX3_sailSpeed_32 : decode cX3_sailSpeed 32 = .ok (.iload_n 2, 1) := by decide +kernel
theorem dX3_sailSpeed_33 : decode cX3_sailSpeed 33 = .ok (.ireturn, 1) := by decide +kernel
theorem dX3_sailSpeed_34 : decode cX3_sailSpeed 34 = .ok (.iconst 2, 1) := by decide +kernel
theorem dX3_sailSpeed_35 : decode cX3_sailSpeed 35 = .ok (.aload_n 0, 1) := by decide +kernel
theorem dX3_sailSpeed_36 : decode cX3_sailSpeed 36 = .ok (.invokevirtual 74, 3) := by decide +kernel
theorem dX3_sailSpeed_39 : decode cX3_sailSpeed 39 = .ok (.iadd, 1) := by decide +kernel
theorem dX3_sailSpeed_40 : decode cX3_sailSpeed 40 = .ok (.iload_n 2, 1) := by decide +kernel
theorem dX3_sailSpeed_41 : decode cX3_sailSpeed 41 = .ok (.imul, 1) := by decide +kernel
theorem dX3_sailSpeed_42 : decode cX3_sailSpeed 42 = .ok (.ireturn, 1) := by decide +kernel
theorem dX3_sailSpeed_43 : decode cX3_sailSpeed 43 = .ok (.iconst 3, 1) := by decide +kernel
theorem dX3_sailSpeed_44 : decode cX3_sailSpeed 44 = .ok (.aload_n 0, 1) := by decide +kernel
theorem dX3_sailSpeed_45 : decode cX3_sailSpeed 45 = .ok (.invokevirtual 74, 3) := by decide +kernel
theorem dX3_sailSpeed_48 : decode cX3_sailSpeed 48 = .ok (.iadd, 1) := by decide +kernel
theorem dX3_sailSpeed_49 : decode cX3_sailSpeed 49 = .ok (.iload_n 2, 1) := by decide +kernel
theorem dX3_sailSpeed_50 : decode cX3_sailSpeed 50 = .ok (.imul, 1) := by decide +kernel
theorem dX3_sailSpeed_51 : decode cX3_sailSpeed 51 = .ok (.ireturn, 1) := by decide +kernel
theorem dX3_sailSpeed_52 : decode cX3_sailSpeed 52 = .ok (.iconst 2, 1) := by decide +kernel
theorem dX3_sailSpeed_53 : decode cX3_sailSpeed 53 = .ok (.iload_n 2, 1) := by decide +kernel
theorem dX3_sailSpeed_54 : decode cX3_sailSpeed 54 = .ok (.imul, 1) := by decide +kernel
theorem dX3_sailSpeed_55 : decode cX3_sailSpeed 55 = .ok (.ireturn, 1) := by decide +kernel
theorem dX3_sailSpeed_56 : decode cX3_sailSpeed 56 = .ok (.iconst 0, 1) := by decide +kernel
theorem dX3_sailSpeed_57 : decode cX3_sailSpeed 57 = .ok (.ireturn, 1) := by decide +kernel
theorem dX3_moreAcrossTheWind_0 : decode cX3_moreAcrossTheWind 0 = .ok (.aload_n 0, 1) := by decide +kernel
theorem dX3_moreAcrossTheWind_1 : decode cX3_moreAcrossTheWind 1 = .ok (.getfield 49, 3) := by decide +kernel
theorem dX3_moreAcrossTheWind_4 : decode cX3_moreAcrossTheWind 4 = .ok (.iconst 3, 1) := by decide +kernel
theorem dX3_moreAcrossTheWind_5 : decode cX3_moreAcrossTheWind 5 = .ok (.if_icmp .ne 5, 3) := by decide +kernel
theorem dX3_moreAcrossTheWind_8 : decode cX3_moreAcrossTheWind 8 = .ok (.iconst 2, 1) := by decide +kernel
theorem dX3_moreAcrossTheWind_9 : decode cX3_moreAcrossTheWind 9 = .ok (.ireturn, 1) := by decide +kernel
theorem dX3_moreAcrossTheWind_10 : decode cX3_moreAcrossTheWind 10 = .ok (.aload_n 0, 1) := by decide +kernel
theorem dX3_moreAcrossTheWind_11 : decode cX3_moreAcrossTheWind 11 = .ok (.getfield 49, 3) := by decide +kernel
theorem dX3_moreAcrossTheWind_14 : decode cX3_moreAcrossTheWind 14 = .ok (.iconst 1, 1) := by decide +kernel
theorem dX3_moreAcrossTheWind_15 : decode cX3_moreAcrossTheWind 15 = .ok (.if_icmp .ne 7, 3) := by decide +kernel
theorem dX3_moreAcrossTheWind_18 : decode cX3_moreAcrossTheWind 18 = .ok (.iconst 1, 1) := by decide +kernel
theorem dX3_moreAcrossTheWind_19 : decode cX3_moreAcrossTheWind 19 = .ok (.goto 4, 3) := by decide +kernel
theorem dX3_moreAcrossTheWind_22 : decode cX3_moreAcrossTheWind 22 = .ok (.iconst 0, 1) := by decide +kernel
theorem dX3_moreAcrossTheWind_23 : decode cX3_moreAcrossTheWind 23 = .ok (.ireturn, 1) := by decide +kernel
set_option maxRecDepth 20000 in
theorem ggX3_askWay_Jx4a65c_size_8abf5 : GoodIn wsX3_askWay wsJx4a65c_size_8abf5 := goodIn_r _ [10, 11, 62, 63, 64] rfl (by decide +kernel)
set_option maxRecDepth 20000 in
theorem gX3_askWay_Jx4a65c_size_8abf5_f78Jx4a65c : GoodIn wsX3_askWay (va_wsF RX3 78 RJx4a65c ⟨"java/util/List", "size", "()I"⟩ yJx4a65c_size_8abf5 wsJx4a65c_size_8abf5) := goodIn_app (goodIn_of _ (by decide +kernel)) ggX3_askWay_Jx4a65c_size_8abf5
set_option maxRecDepth 20000 in
theorem ggX3_askWay_Jx4a65c_get_915e3 : GoodIn wsX3_askWay wsJx4a65c_get_915e3 := goodIn_r _ [15, 11, 16, 17, 18, 19, 20, 21, 22, 23, 24, 25, 26, 9, 27, 28, 62, 63, 64] rfl (by decide +kernel)
set_option maxRecDepth 20000 in
theorem gX3_askWay_Jx4a65c_get_915e3_f83Jx4a65c : GoodIn wsX3_askWay (va_wsF RX3 83 RJx4a65c ⟨"java/util/List", "get", "(I)Ljava/lang/Object;"⟩ yJx4a65c_get_915e3 wsJx4a65c_get_915e3) := goodIn_app (goodIn_of _ (by decide +kernel)) ggX3_askWay_Jx4a65c_get_915e3
set_option maxRecDepth 20000 in
theorem ggX3_askWay_X5_strengthOf : GoodIn wsX3_askWay wsX5_strengthOf := goodIn_r _ [31] rfl (by decide +kernel)
set_option maxRecDepth 20000 in
theorem gX3_askWay_X5_strengthOf_n62 : GoodIn wsX3_askWay (wsX5_strengthOf) := ggX3_askWay_X5_strengthOf
set_option maxRecDepth 20000 in
theorem ggX3_askWay_X0_fits : GoodIn wsX3_askWay wsX0_fits := goodIn_r _ [36, 37, 38, 39, 40, 41, 56, 57, 58, 59, 60, 61] rfl (by decide +kernel)
set_option maxRecDepth 20000 in
theorem gX3_askWay_X0_fits : GoodIn wsX3_askWay (wsV RX3 89 RX0 yX0_fits wsX0_fits) := goodIn_app (goodIn_of _ (by decide +kernel)) ggX3_askWay_X0_fits
theorem dX3_askWay_0 : decode cX3_askWay 0 = .ok (.iconst 0, 1) := by decide +kernel
theorem dX3_askWay_1 : decode cX3_askWay 1 = .ok (.istore_n 2, 1) := by decide +kernel
theorem dX3_askWay_2 : decode cX3_askWay 2 = .ok (.iload_n 2, 1) := by decide +kernel
theorem dX3_askWay_3 : decode cX3_askWay 3 = .ok (.aload_n 0, 1) := by decide +kernel
theorem dX3_askWay_4 : decode cX3_askWay 4 = .ok (.getfield 12, 3) := by decide +kernel
theorem dX3_askWay_7 : decode cX3_askWay 7 = .ok (.invokeinterface 78 1, 5) := by decide +kernel
theorem dX3_askWay_12 : decode cX3_askWay 12 = .ok (.if_icmp .ge 47, 3) := by decide +kernel
theorem dX3_askWay_15 : decode cX3_askWay 15 = .ok (.aload_n 0, 1) := by decide +kernel
theorem dX3_askWay_16 : decode cX3_askWay 16 = .ok (.getfield 12, 3) := by decide +kernel
theorem dX3_askWay_19 : decode cX3_askWay 19 = .ok (.iload_n 2, 1) := by decide +kernel
theorem dX3_askWay_20 : decode cX3_askWay 20 = .ok (.invokeinterface 83 2, 5) := by decide +kernel
theorem dX3_askWay_25 : decode cX3_askWay 25 = .ok (.checkcast 87, 3) := by decide +kernel
theorem dX3_askWay_28 : decode cX3_askWay 28 = .ok (.astore_n 3, 1) := by decide +kernel
theorem dX3_askWay_29 : decode cX3_askWay 29 = .ok (.aload_n 3, 1) := by decide +kernel
theorem dX3_askWay_30 : decode cX3_askWay 30 = .ok (.aload_n 0, 1) := by decide +kernel
theorem dX3_askWay_31 : decode cX3_askWay 31 = .ok (.getfield 52, 3) := by decide +kernel
theorem dX3_askWay_34 : decode cX3_askWay 34 = .ok (.iload_n 1, 1) := by decide +kernel
theorem dX3_askWay_35 : decode cX3_askWay 35 = .ok (.invokestatic 62, 3) := by decide +kernel
theorem dX3_askWay_38 : decode cX3_askWay 38 = .ok (.invokevirtual 89, 3) := by decide +kernel
theorem dX3_askWay_41 : decode cX3_askWay 41 = .ok (.ifCond .eq 12, 3) := by decide +kernel
theorem dX3_askWay_44 : decode cX3_askWay 44 = .ok (.aload_n 0, 1) := by decide +kernel
theorem dX3_askWay_45 : decode cX3_askWay 45 = .ok (.aload_n 3, 1) := by decide +kernel
theorem dX3_askWay_46 : decode cX3_askWay 46 = .ok (.getfield 93, 3) := by decide +kernel
theorem dX3_askWay_49 : decode cX3_askWay 49 = .ok (.putfield 25, 3) := by decide +kernel
theorem dX3_askWay_52 : decode cX3_askWay 52 = .ok (.return_, 1) := by decide +kernel
theorem dX3_askWay_53 : decode cX3_askWay 53 = .ok (.iinc 2 1, 3) := by decide +kernel
theorem dX3_askWay_56 : decode cX3_askWay 56 = .ok (.goto (-54), 3) := by decide +kernel
theorem dX3_askWay_59 : decode cX3_askWay 59 = .ok (.return_, 1) := by decide +kernel
theorem dX3_beats_0 : decode cX3_beats 0 = .ok (.aload_n 0, 1) := by decide +kernel
theorem dX3_beats_1 : decode cX3_beats 1 = .ok (.getfield 37, 3) := by decide +kernel
theorem dX3_beats_4 : decode cX3_beats 4 = .ok (.aload_n 1, 1) := by decide +kernel
theorem dX3_beats_5 : decode cX3_beats 5 = .ok (.getfield 37, 3) := by decide +kernel
theorem dX3_beats_8 : decode cX3_beats 8 = .ok (.if_icmp .eq 20, 3) := by decide +kernel
theorem dX3_beats_11 : decode cX3_beats 11 = .ok (.aload_n 0, 1) := by decide +kernel
theorem dX3_beats_12 : decode cX3_beats 12 = .ok (.getfield 37, 3) := by decide +kernel
theorem dX3_beats_15 : decode cX3_beats 15 = .ok (.aload_n 1, 1) := by decide +kernel
theorem dX3_beats_16 : decode cX3_beats 16 = .ok (.getfield 37, 3) := by decide +kernel
theorem dX3_beats_19 : decode cX3_beats 19 = .ok (.if_icmp .ge 7, 3) := by decide +kernel
theorem dX3_beats_22 : decode cX3_beats 22 = .ok (.iconst 1, 1) := by decide +kernel
theorem dX3_beats_23 : decode cX3_beats 23 = .ok (.goto 4, 3) := by decide +kernel
theorem dX3_beats_26 : decode cX3_beats 26 = .ok (.iconst 0, 1) := by decide +kernel
theorem dX3_beats_27 : decode cX3_beats 27 = .ok (.ireturn, 1) := by decide +kernel
theorem dX3_beats_28 : decode cX3_beats 28 = .ok (.aload_n 0, 1) := by decide +kernel
theorem dX3_beats_29 : decode cX3_beats 29 = .ok (.getfield 34, 3) := by decide +kernel
theorem dX3_beats_32 : decode cX3_beats 32 = .ok (.aload_n 1, 1) := by decide +kernel
theorem dX3_beats_33 : decode cX3_beats 33 = .ok (.getfield 34, 3) := by decide +kernel
theorem dX3_beats_36 : decode cX3_beats 36 = .ok (.if_icmp .eq 20, 3) := by decide +kernel
theorem dX3_beats_39 : decode cX3_beats 39 = .ok (.aload_n 0, 1) := by decide +kernel
theorem dX3_beats_40 : decode cX3_beats 40 = .ok (.getfield 34, 3) := by decide +kernel
theorem dX3_beats_43 : decode cX3_beats 43 = .ok (.aload_n 1, 1) := by decide +kernel
theorem dX3_beats_44 : decode cX3_beats 44 = .ok (.getfield 34, 3) := by decide +kernel
theorem dX3_beats_47 : decode cX3_beats 47 = .ok (.if_icmp .ge 7, 3) := by decide +kernel
theorem dX3_beats_50 : decode cX3_beats 50 = .ok (.iconst 1, 1) := by decide +kernel
theorem dX3_beats_51 : decode cX3_beats 51 = .ok (.goto 4, 3) := by decide +kernel
theorem dX3_beats_54 : decode cX3_beats 54 = .ok (.iconst 0, 1) := by decide +kernel
theorem dX3_beats_55 : decode cX3_beats 55 = .ok (.ireturn, 1) := by decide +kernel
theorem dX3_beats_56 : decode cX3_beats 56 = .ok (.aload_n 0, 1) := by decide +kernel
theorem dX3_beats_57 : decode cX3_beats 57 = .ok (.getfield 46, 3) := by decide +kernel
theorem dX3_beats_60 : decode cX3_beats 60 = .ok (.aload_n 1, 1) := by decide +kernel
theorem dX3_beats_61 : decode cX3_beats 61 = .ok (.getfield 46, 3) := by decide +kernel
theorem dX3_beats_64 : decode cX3_beats 64 = .ok (.if_icmp .ge 7, 3) := by decide +kernel
theorem dX3_beats_67 : decode cX3_beats 67 = .ok (.iconst 1, 1) := by decide +kernel
theorem dX3_beats_68 : decode cX3_beats 68 = .ok (.goto 4, 3) := by decide +kernel
theorem dX3_beats_71 : decode cX3_beats 71 = .ok (.iconst 0, 1) := by decide +kernel
theorem dX3_beats_72 : decode cX3_beats 72 = .ok (.ireturn, 1) := by decide +kernel
theorem dX3_entersBefore_0 : decode cX3_entersBefore 0 = .ok (.aload_n 0, 1) := by decide +kernel
theorem dX3_entersBefore_1 : decode cX3_entersBefore 1 = .ok (.getfield 37, 3) := by decide +kernel
theorem dX3_entersBefore_4 : decode cX3_entersBefore 4 = .ok (.aload_n 1, 1) := by decide +kernel
theorem dX3_entersBefore_5 : decode cX3_entersBefore 5 = .ok (.getfield 37, 3) := by decide +kernel
theorem dX3_entersBefore_8 : decode cX3_entersBefore 8 = .ok (.if_icmp .lt 25, 3) := by decide +kernel
theorem dX3_entersBefore_11 : decode cX3_entersBefore 11 = .ok (.aload_n 0, 1) := by decide +kernel
theorem dX3_entersBefore_12 : decode cX3_entersBefore 12 = .ok (.getfield 37, 3) := by decide +kernel
theorem dX3_entersBefore_15 : decode cX3_entersBefore 15 = .ok (.aload_n 1, 1) := by decide +kernel
theorem dX3_entersBefore_16 : decode cX3_entersBefore 16 = .ok (.getfield 37, 3) := by decide +kernel
theorem dX3_entersBefore_19 : decode cX3_entersBefore 19 = .ok (.if_icmp .ne 18, 3) := by decide +kernel
theorem dX3_entersBefore_22 : decode cX3_entersBefore 22 = .ok (.aload_n 0, 1) := by decide +kernel
theorem dX3_entersBefore_23 : decode cX3_entersBefore 23 = .ok (.getfield 46, 3) := by decide +kernel
theorem dX3_entersBefore_26 : decode cX3_entersBefore 26 = .ok (.aload_n 1, 1) := by decide +kernel
theorem dX3_entersBefore_27 : decode cX3_entersBefore 27 = .ok (.getfield 46, 3) := by decide +kernel
theorem dX3_entersBefore_30 : decode cX3_entersBefore 30 = .ok (.if_icmp .ge 7, 3) := by decide +kernel
theorem dX3_entersBefore_33 : decode cX3_entersBefore 33 = .ok (.iconst 1, 1) := by decide +kernel
theorem dX3_entersBefore_34 : decode cX3_entersBefore 34 = .ok (.goto 4, 3) := by decide +kernel
theorem dX3_entersBefore_37 : decode cX3_entersBefore 37 = .ok (.iconst 0, 1) := by decide +kernel
theorem dX3_entersBefore_38 : decode cX3_entersBefore 38 = .ok (.ireturn, 1) := by decide +kernel
set_option maxRecDepth 20000 in
theorem ggX3_isUnseenFrom_X3_firstSightFrom : GoodIn wsX3_isUnseenFrom wsX3_firstSightFrom := goodIn_r _ [5, 6, 7, 8, 9, 10, 11, 12, 13, 14, 15, 16, 17, 18, 19, 20, 21, 22, 23, 24, 25, 26, 27, 28, 29, 30, 31, 32, 33, 34, 35, 36, 37, 38, 39, 40, 41, 42, 43, 44, 45, 46, 47, 48, 49, 50] rfl (by decide +kernel)
set_option maxRecDepth 20000 in
theorem gX3_isUnseenFrom_X3_firstSightFrom : GoodIn wsX3_isUnseenFrom (wsV RX3 94 RX3 yX3_firstSightFrom wsX3_firstSightFrom) := goodIn_app (goodIn_of _ (by decide +kernel)) ggX3_isUnseenFrom_X3_firstSightFrom
theorem dX3_isUnseenFrom_0 : decode cX3_isUnseenFrom 0 = .ok (.aload_n 0, 1) := by decide +kernel
theorem dX3_isUnseenFrom_1 : decode cX3_isUnseenFrom 1 = .ok (.iload_n 1, 1) := by decide +kernel
theorem dX3_isUnseenFrom_2 : decode cX3_isUnseenFrom 2 = .ok (.invokevirtual 94, 3) := by decide +kernel
theorem dX3_isUnseenFrom_5 : decode cX3_isUnseenFrom 5 = .ok (.ifnonnull 7, 3) := by decide +kernel
theorem dX3_isUnseenFrom_8 : decode cX3_isUnseenFrom 8 = .ok (.iconst 1, 1) := by decide +kernel
theorem dX3_isUnseenFrom_9 : decode cX3_isUnseenFrom 9 = .ok (.goto 4, 3) := by decide +kernel
theorem dX3_isUnseenFrom_12 : decode cX3_isUnseenFrom 12 = .ok (.iconst 0, 1) := by decide +kernel
theorem dX3_isUnseenFrom_13 : decode cX3_isUnseenFrom 13 = .ok (.ireturn, 1) := by decide +kernel
set_option maxRecDepth 20000 in
theorem ggX3_isSeenAround_X3_lastSightBy : GoodIn wsX3_isSeenAround wsX3_lastSightBy := goodIn_r _ [5, 6, 7, 8, 9, 10, 11, 12, 13, 14, 15, 16, 17, 18, 19, 20, 21, 22, 23, 24, 25, 26, 27, 28, 29, 30, 31, 36, 37, 38, 39, 40, 41, 42, 43, 44, 45, 46, 47, 48, 49, 50, 51, 52, 53, 54] rfl (by decide +kernel)
set_option maxRecDepth 20000 in
theorem gX3_isSeenAround_X3_lastSightBy : GoodIn wsX3_isSeenAround (wsV RX3 98 RX3 yX3_lastSightBy wsX3_lastSightBy) := goodIn_app (goodIn_of _ (by decide +kernel)) ggX3_isSeenAround_X3_lastSightBy
set_option maxRecDepth 20000 in
theorem ggX3_isSeenAround_X3_firstSightFrom : GoodIn wsX3_isSeenAround wsX3_firstSightFrom := goodIn_r _ [35, 6, 7, 8, 9, 10, 11, 12, 13, 14, 15, 16, 17, 18, 19, 20, 21, 22, 23, 24, 25, 26, 27, 28, 29, 30, 31, 36, 37, 38, 39, 40, 41, 42, 43, 44, 45, 46, 47, 48, 49, 50, 51, 52, 53, 54] rfl (by decide +kernel)
set_option maxRecDepth 20000 in
theorem gX3_isSeenAround_X3_firstSightFrom : GoodIn wsX3_isSeenAround (wsV RX3 94 RX3 yX3_firstSightFrom wsX3_firstSightFrom) := goodIn_app (goodIn_of _ (by decide +kernel)) ggX3_isSeenAround_X3_firstSightFrom
theorem dX3_isSeenAround_0 : decode cX3_isSeenAround 0 = .ok (.aload_n 0, 1) := by decide +kernel
theorem dX3_isSeenAround_1 : decode cX3_isSeenAround 1 = .ok (.iload_n 1, 1) := by decide +kernel
theorem dX3_isSeenAround_2 : decode cX3_isSeenAround 2 = .ok (.invokevirtual 98, 3) := by decide +kernel
theorem dX3_isSeenAround_5 : decode cX3_isSeenAround 5 = .ok (.ifnull 15, 3) := by decide +kernel
theorem dX3_isSeenAround_8 : decode cX3_isSeenAround 8 = .ok (.aload_n 0, 1) := by decide +kernel
theorem dX3_isSeenAround_9 : decode cX3_isSeenAround 9 = .ok (.iload_n 1, 1) := by decide +kernel
theorem dX3_isSeenAround_10 : decode cX3_isSeenAround 10 = .ok (.invokevirtual 94, 3) := by decide +kernel
theorem dX3_isSeenAround_13 : decode cX3_isSeenAround 13 = .ok (.ifnull 7, 3) := by decide +kernel
theorem dX3_isSeenAround_16 : decode cX3_isSeenAround 16 = .ok (.iconst 1, 1) := by decide +kernel
theorem dX3_isSeenAround_17 : decode cX3_isSeenAround 17 = .ok (.goto 4, 3) := by decide +kernel
theorem dX3_isSeenAround_20 : decode cX3_isSeenAround 20 = .ok (.iconst 0, 1) := by decide +kernel
theorem dX3_isSeenAround_21 : decode cX3_isSeenAround 21 = .ok (.ireturn, 1) := by decide +kernel
set_option maxRecDepth 20000 in
theorem ggX3_lastSightBy_Jx4a65c_size_8abf5 : GoodIn wsX3_lastSightBy wsJx4a65c_size_8abf5 := goodIn_r _ [8, 9, 43, 44, 45] rfl (by decide +kernel)
set_option maxRecDepth 20000 in
theorem gX3_lastSightBy_Jx4a65c_size_8abf5_f78Jx4a65c : GoodIn wsX3_lastSightBy (va_wsF RX3 78 RJx4a65c ⟨"java/util/List", "size", "()I"⟩ yJx4a65c_size_8abf5 wsJx4a65c_size_8abf5) := goodIn_app (goodIn_of _ (by decide +kernel)) ggX3_lastSightBy_Jx4a65c_size_8abf5
set_option maxRecDepth 20000 in
theorem ggX3_lastSightBy_Jx4a65c_get_915e3 : GoodIn wsX3_lastSightBy wsJx4a65c_get_915e3 := goodIn_r _ [13, 9, 14, 15, 16, 17, 18, 19, 20, 21, 22, 23, 24, 7, 25, 26, 43, 44, 45] rfl (by decide +kernel)
set_option maxRecDepth 20000 in
theorem gX3_lastSightBy_Jx4a65c_get_915e3_f83Jx4a65c : GoodIn wsX3_lastSightBy (va_wsF RX3 83 RJx4a65c ⟨"java/util/List", "get", "(I)Ljava/lang/Object;"⟩ yJx4a65c_get_915e3 wsJx4a65c_get_915e3) := goodIn_app (goodIn_of _ (by decide +kernel)) ggX3_lastSightBy_Jx4a65c_get_915e3
theorem dX3_lastSightBy_0 : decode cX3_lastSightBy 0 = .ok (.aconst_null, 1) := by decide +kernel
theorem dX3_lastSightBy_1 : decode cX3_lastSightBy 1 = .ok (.astore_n 2, 1) := by decide +kernel
theorem dX3_lastSightBy_2 : decode cX3_lastSightBy 2 = .ok (.iconst 0, 1) := by decide +kernel
theorem dX3_lastSightBy_3 : decode cX3_lastSightBy 3 = .ok (.istore_n 3, 1) := by decide +kernel
theorem dX3_lastSightBy_4 : decode cX3_lastSightBy 4 = .ok (.iload_n 3, 1) := by decide +kernel
theorem dX3_lastSightBy_5 : decode cX3_lastSightBy 5 = .ok (.aload_n 0, 1) := by decide +kernel
theorem dX3_lastSightBy_6 : decode cX3_lastSightBy 6 = .ok (.getfield 18, 3) := by decide +kernel
theorem dX3_lastSightBy_9 : decode cX3_lastSightBy 9 = .ok (.invokeinterface 78 1, 5) := by decide +kernel
theorem dX3_lastSightBy_14 : decode cX3_lastSightBy 14 = .ok (.if_icmp .ge 36, 3) := by decide +kernel
theorem dX3_lastSightBy_17 : decode cX3_lastSightBy 17 = .ok (.aload_n 0, 1) := by decide +kernel
theorem dX3_lastSightBy_18 : decode cX3_lastSightBy 18 = .ok (.getfield 18, 3) := by decide +kernel
theorem dX3_lastSightBy_21 : decode cX3_lastSightBy 21 = .ok (.iload_n 3, 1) := by decide +kernel
theorem dX3_lastSightBy_22 : decode cX3_lastSightBy 22 = .ok (.invokeinterface 83 2, 5) := by decide +kernel
theorem dX3_lastSightBy_27 : decode cX3_lastSightBy 27 = .ok (.checkcast 101, 3) := by decide +kernel
theorem dX3_lastSightBy_30 : decode cX3_lastSightBy 30 = .ok (.astore 4, 2) := by decide +kernel
theorem dX3_lastSightBy_32 : decode cX3_lastSightBy 32 = .ok (.aload 4, 2) := by decide +kernel
theorem dX3_lastSightBy_34 : decode cX3_lastSightBy 34 = .ok (.getfield 103, 3) := by decide +kernel
theorem dX3_lastSightBy_37 : decode cX3_lastSightBy 37 = .ok (.iload_n 1, 1) := by decide +kernel
theorem dX3_lastSightBy_38 : decode cX3_lastSightBy 38 = .ok (.if_icmp .gt 6, 3) := by decide +kernel
theorem dX3_lastSightBy_41 : decode cX3_lastSightBy 41 = .ok (.aload 4, 2) := by decide +kernel
theorem dX3_lastSightBy_43 : decode cX3_lastSightBy 43 = .ok (.astore_n 2, 1) := by decide +kernel
theorem dX3_lastSightBy_44 : decode cX3_lastSightBy 44 = .ok (.iinc 3 1, 3) := by decide +kernel
theorem dX3_lastSightBy_47 : decode cX3_lastSightBy 47 = .ok (.goto (-43), 3) := by decide +kernel
theorem dX3_lastSightBy_50 : decode cX3_lastSightBy 50 = .ok (.aload_n 2, 1) := by decide +kernel
theorem dX3_lastSightBy_51 : decode cX3_lastSightBy 51 = .ok (.areturn, 1) := by decide +kernel
set_option maxRecDepth 20000 in
theorem ggX3_firstSightFrom_Jx4a65c_size_8abf5 : GoodIn wsX3_firstSightFrom wsJx4a65c_size_8abf5 := goodIn_r _ [8, 9, 43, 44, 45] rfl (by decide +kernel)
set_option maxRecDepth 20000 in
theorem gX3_firstSightFrom_Jx4a65c_size_8abf5_f78Jx4a65c : GoodIn wsX3_firstSightFrom (va_wsF RX3 78 RJx4a65c ⟨"java/util/List", "size", "()I"⟩ yJx4a65c_size_8abf5 wsJx4a65c_size_8abf5) := goodIn_app (goodIn_of _ (by decide +kernel)) ggX3_firstSightFrom_Jx4a65c_size_8abf5
set_option maxRecDepth 20000 in
theorem ggX3_firstSightFrom_Jx4a65c_get_915e3 : GoodIn wsX3_firstSightFrom wsJx4a65c_get_915e3 := goodIn_r _ [13, 9, 14, 15, 16, 17, 18, 19, 20, 21, 22, 23, 24, 7, 25, 26, 43, 44, 45] rfl (by decide +kernel)
set_option maxRecDepth 20000 in
theorem gX3_firstSightFrom_Jx4a65c_get_915e3_f83Jx4a65c : GoodIn wsX3_firstSightFrom (va_wsF RX3 83 RJx4a65c ⟨"java/util/List", "get", "(I)Ljava/lang/Object;"⟩ yJx4a65c_get_915e3 wsJx4a65c_get_915e3) := goodIn_app (goodIn_of _ (by decide +kernel)) ggX3_firstSightFrom_Jx4a65c_get_915e3
theorem dX3_firstSightFrom_0 : decode cX3_firstSightFrom 0 = .ok (.iconst 0, 1) := by decide +kernel
theorem dX3_firstSightFrom_1 : decode cX3_firstSightFrom 1 = .ok (.istore_n 2, 1) := by decide +kernel
theorem dX3_firstSightFrom_2 : decode cX3_firstSightFrom 2 = .ok (.iload_n 2, 1) := by decide +kernel
theorem dX3_firstSightFrom_3 : decode cX3_firstSightFrom 3 = .ok (.aload_n 0, 1) := by decide +kernel
theorem dX3_firstSightFrom_4 : decode cX3_firstSightFrom 4 = .ok (.getfield 18, 3) := by decide +kernel
theorem dX3_firstSightFrom_7 : decode cX3_firstSightFrom 7 = .ok (.invokeinterface 78 1, 5) := by decide +kernel
theorem dX3_firstSightFrom_12 : decode cX3_firstSightFrom 12 = .ok (.if_icmp .ge 33, 3) := by decide +kernel
theorem dX3_firstSightFrom_15 : decode cX3_firstSightFrom 15 = .ok (.aload_n 0, 1) := by decide +kernel
theorem dX3_firstSightFrom_16 : decode cX3_firstSightFrom 16 = .ok (.getfield 18, 3) := by decide +kernel
theorem dX3_firstSightFrom_19 : decode cX3_firstSightFrom 19 = .ok (.iload_n 2, 1) := by decide +kernel
theorem dX3_firstSightFrom_20 : decode cX3_firstSightFrom 20 = .ok (.invokeinterface 83 2, 5) := by decide +kernel
theorem dX3_firstSightFrom_25 : decode cX3_firstSightFrom 25 = .ok (.checkcast 101, 3) := by decide +kernel
theorem dX3_firstSightFrom_28 : decode cX3_firstSightFrom 28 = .ok (.astore_n 3, 1) := by decide +kernel
theorem dX3_firstSightFrom_29 : decode cX3_firstSightFrom 29 = .ok (.aload_n 3, 1) := by decide +kernel
theorem dX3_firstSightFrom_30 : decode cX3_firstSightFrom 30 = .ok (.getfield 103, 3) := by decide +kernel
theorem dX3_firstSightFrom_33 : decode cX3_firstSightFrom 33 = .ok (.iload_n 1, 1) := by decide +kernel
theorem dX3_firstSightFrom_34 : decode cX3_firstSightFrom 34 = .ok (.if_icmp .lt 5, 3) := by decide +kernel
theorem dX3_firstSightFrom_37 : decode cX3_firstSightFrom 37 = .ok (.aload_n 3, 1) := by decide +kernel
theorem dX3_firstSightFrom_38 : decode cX3_firstSightFrom 38 = .ok (.areturn, 1) := by decide +kernel
theorem dX3_firstSightFrom_39 : decode cX3_firstSightFrom 39 = .ok (.iinc 2 1, 3) := by decide +kernel
theorem dX3_firstSightFrom_42 : decode cX3_firstSightFrom 42 = .ok (.goto (-40), 3) := by decide +kernel
theorem dX3_firstSightFrom_45 : decode cX3_firstSightFrom 45 = .ok (.aconst_null, 1) := by decide +kernel
theorem dX3_firstSightFrom_46 : decode cX3_firstSightFrom 46 = .ok (.areturn, 1) := by decide +kernel
theorem dX4_init_0 : decode cX4_init 0 = .ok (.aload_n 0, 1) := by decide +kernel
theorem dX4_init_1 : decode cX4_init 1 = .ok (.invokespecial 1, 3) := by decide +kernel
theorem dX4_init_4 : decode cX4_init 4 = .ok (.aload_n 0, 1) := by decide +kernel
theorem dX4_init_5 : decode cX4_init 5 = .ok (.iload_n 1, 1) := by decide +kernel
theorem dX4_init_6 : decode cX4_init 6 = .ok (.putfield 7, 3) := by decide +kernel
theorem dX4_init_9 : decode cX4_init 9 = .ok (.aload_n 0, 1) := by decide +kernel
theorem dX4_init_10 : decode cX4_init 10 = .ok (.iload_n 2, 1) := by decide +kernel
theorem dX4_init_11 : decode cX4_init 11 = .ok (.putfield 13, 3) := by decide +kernel
theorem dX4_init_14 : decode cX4_init 14 = .ok (.return_, 1) := by decide +kernel
set_option maxRecDepth 20000 in
theorem ggX5_init_X2_init : GoodIn wsX5_init wsX2_init := goodIn_r _ [27, 28, 2, 3, 29, 30, 31, 32, 33, 34, 55, 56, 57] rfl (by decide +kernel)
set_option maxRecDepth 20000 in
theorem gX5_init_X2_init_n9 : GoodIn wsX5_init (wsX2_init) := ggX5_init_X2_init
set_option maxRecDepth 20000 in
theorem ggX5_init_X1_init : GoodIn wsX5_init wsX1_init := goodIn_r _ [36, 37, 2, 3, 16, 38, 29, 39, 70, 71] rfl (by decide +kernel)
set_option maxRecDepth 20000 in
theorem gX5_init_X1_init_n18 : GoodIn wsX5_init (wsX1_init) := ggX5_init_X1_init
set_option maxRecDepth 20000 in
theorem ggX5_init_Jx4a65c_init_da8c8 : GoodIn wsX5_init wsJx4a65c_init_da8c8 := goodIn_r _ [42, 43, 44, 45, 46, 47, 48, 49, 50, 51, 52, 53, 54, 2, 3, 72, 73, 74] rfl (by decide +kernel)
set_option maxRecDepth 20000 in
theorem gX5_init_Jx4a65c_init_da8c8 : GoodIn wsX5_init (wsJx4a65c_init_da8c8) := ggX5_init_Jx4a65c_init_da8c8
theorem dX5_init_0 : decode cX5_init 0 = .ok (.aload_n 0, 1) := by decide +kernel
theorem dX5_init_1 : decode cX5_init 1 = .ok (.invokespecial 1, 3) := by decide +kernel
theorem dX5_init_4 : decode cX5_init 4 = .ok (.aload_n 0, 1) := by decide +kernel
theorem dX5_init_5 : decode cX5_init 5 = .ok (.new 7, 3) := by decide +kernel
theorem dX5_init_8 : decode cX5_init 8 = .ok (.dup, 1) := by decide +kernel
theorem dX5_init_9 : decode cX5_init 9 = .ok (.invokespecial 9, 3) := by decide +kernel
theorem dX5_init_12 : decode cX5_init 12 = .ok (.putfield 10, 3) := by decide +kernel
theorem dX5_init_15 : decode cX5_init 15 = .ok (.aload_n 0, 1) := by decide +kernel
theorem dX5_init_16 : decode cX5_init 16 = .ok (.new 16, 3) := by decide +kernel
theorem dX5_init_19 : decode cX5_init 19 = .ok (.dup, 1) := by decide +kernel
theorem dX5_init_20 : decode cX5_init 20 = .ok (.invokespecial 18, 3) := by decide +kernel
theorem dX5_init_23 : decode cX5_init 23 = .ok (.putfield 19, 3) := by decide +kernel
theorem dX5_init_26 : decode cX5_init 26 = .ok (.aload_n 0, 1) := by decide +kernel
theorem dX5_init_27 : decode cX5_init 27 = .ok (.new 23, 3) := by decide +kernel
theorem dX5_init_30 : decode cX5_init 30 = .ok (.dup, 1) := by decide +kernel
theorem dX5_init_31 : decode cX5_init 31 = .ok (.invokespecial 25, 3) := by decide +kernel
theorem dX5_init_34 : decode cX5_init 34 = .ok (.putfield 26, 3) := by decide +kernel
theorem dX5_init_37 : decode cX5_init 37 = .ok (.aload_n 0, 1) := by decide +kernel
theorem dX5_init_38 : decode cX5_init 38 = .ok (.bipush 6, 2) := by decide +kernel
theorem dX5_init_40 : decode cX5_init 40 = .ok (.newarray .int, 2) := by decide +kernel
theorem dX5_init_42 : decode cX5_init 42 = .ok (.putfield 30, 3) := by decide +kernel
theorem dX5_init_45 : decode cX5_init 45 = .ok (.aload_n 0, 1) := by decide +kernel
theorem dX5_init_46 : decode cX5_init 46 = .ok (.iconst 0, 1) := by decide +kernel
theorem dX5_init_47 : decode cX5_init 47 = .ok (.putfield 34, 3) := by decide +kernel
theorem dX5_init_50 : decode cX5_init 50 = .ok (.aload_n 0, 1) := by decide +kernel
theorem dX5_init_51 : decode cX5_init 51 = .ok (.iconst 0, 1) := by decide +kernel
theorem dX5_init_52 : decode cX5_init 52 = .ok (.putfield 38, 3) := by decide +kernel
theorem dX5_init_55 : decode cX5_init 55 = .ok (.aload_n 0, 1) := by decide +kernel
theorem dX5_init_56 : decode cX5_init 56 = .ok (.iconst 0, 1) := by decide +kernel
theorem dX5_init_57 : decode cX5_init 57 = .ok (.putfield 41, 3) := by decide +kernel
theorem dX5_init_60 : decode cX5_init 60 = .ok (.aload_n 0, 1) := by decide +kernel
theorem dX5_init_61 : decode cX5_init 61 = .ok (.iconst 0, 1) := by decide +kernel
theorem dX5_init_62 : decode cX5_init 62 = .ok (.putfield 44, 3) := by decide +kernel
theorem dX5_init_65 : decode cX5_init 65 = .ok (.aload_n 0, 1) := by decide +kernel
theorem dX5_init_66 : decode cX5_init 66 = .ok (.iconst 0, 1) := by decide +kernel
theorem dX5_init_67 : decode cX5_init 67 = .ok (.putfield 47, 3) := by decide +kernel
theorem dX5_init_70 : decode cX5_init 70 = .ok (.aload_n 0, 1) := by decide +kernel
theorem dX5_init_71 : decode cX5_init 71 = .ok (.bipush 100, 2) := by decide +kernel
theorem dX5_init_73 : decode cX5_init 73 = .ok (.putfield 50, 3) := by decide +kernel
theorem dX5_init_76 : decode cX5_init 76 = .ok (.aload_n 0, 1) := by decide +kernel
theorem dX5_init_77 : decode cX5_init 77 = .ok (.iconst 1, 1) := by decide +kernel
theorem dX5_init_78 : decode cX5_init 78 = .ok (.putfield 53, 3) := by decide +kernel
theorem dX5_init_81 : decode cX5_init 81 = .ok (.aload_n 0, 1) := by decide +kernel
theorem dX5_init_82 : decode cX5_init 82 = .ok (.lconst 0, 1) := by decide +kernel
theorem dX5_init_83 : decode cX5_init 83 = .ok (.putfield 56, 3) := by decide +kernel
theorem dX5_init_86 : decode cX5_init 86 = .ok (.return_, 1) := by decide +kernel
set_option maxRecDepth 20000 in
theorem ggX5_land_X5_outside : GoodIn wsX5_land wsX5_outside := goodIn_r _ [5] rfl (by decide +kernel)
set_option maxRecDepth 20000 in
theorem gX5_land_X5_outside : GoodIn wsX5_land (va_wsS RX5 60 yX5_outside wsX5_outside) := goodIn_app (goodIn_of _ (by decide +kernel)) ggX5_land_X5_outside
set_option maxRecDepth 20000 in
theorem ggX5_land_X2_isLand : GoodIn wsX5_land wsX2_isLand := goodIn_r _ [10, 11, 3, 4, 5, 28, 29, 30] rfl (by decide +kernel)
set_option maxRecDepth 20000 in
theorem gX5_land_X2_isLand : GoodIn wsX5_land (wsV RX5 64 RX2 yX2_isLand wsX2_isLand) := goodIn_app (goodIn_of _ (by decide +kernel)) ggX5_land_X2_isLand
set_option maxRecDepth 20000 in
theorem ggX5_land_X2_setLand : GoodIn wsX5_land wsX2_setLand := goodIn_r _ [15, 11, 3, 4, 5, 28, 29, 30] rfl (by decide +kernel)
set_option maxRecDepth 20000 in
theorem gX5_land_X2_setLand : GoodIn wsX5_land (wsV RX5 68 RX2 yX2_setLand wsX2_setLand) := goodIn_app (goodIn_of _ (by decide +kernel)) ggX5_land_X2_setLand
theorem dX5_land_0 : decode cX5_land 0 = .ok (.iload_n 1, 1) := by decide +kernel
theorem dX5_land_1 : decode cX5_land 1 = .ok (.sipush 159, 3) := by decide +kernel
theorem dX5_land_4 : decode cX5_land 4 = .ok (.invokestatic 60, 3) := by decide +kernel
theorem dX5_land_7 : decode cX5_land 7 = .ok (.ifCond .eq 5, 3) := by decide +kernel
theorem dX5_land_10 : decode cX5_land 10 = .ok (.iconst (-1), 1) := by decide +kernel
theorem dX5_land_11 : decode cX5_land 11 = .ok (.ireturn, 1) := by decide +kernel
theorem dX5_land_12 : decode cX5_land 12 = .ok (.aload_n 0, 1) := by decide +kernel
theorem dX5_land_13 : decode cX5_land 13 = .ok (.getfield 10, 3) := by decide +kernel
theorem dX5_land_16 : decode cX5_land 16 = .ok (.iload_n 1, 1) := by decide +kernel
theorem dX5_land_17 : decode cX5_land 17 = .ok (.invokevirtual 64, 3) := by decide +kernel
theorem dX5_land_20 : decode cX5_land 20 = .ok (.istore_n 3, 1) := by decide +kernel
theorem dX5_land_21 : decode cX5_land 21 = .ok (.aload_n 0, 1) := by decide +kernel
theorem dX5_land_22 : decode cX5_land 22 = .ok (.getfield 10, 3) := by decide +kernel
theorem dX5_land_25 : decode cX5_land 25 = .ok (.iload_n 1, 1) := by decide +kernel
theorem dX5_land_26 : decode cX5_land 26 = .ok (.iload_n 2, 1) := by decide +kernel
theorem dX5_land_27 : decode cX5_land 27 = .ok (.invokevirtual 68, 3) := by decide +kernel
theorem dX5_land_30 : decode cX5_land 30 = .ok (.iload_n 3, 1) := by decide +kernel
theorem dX5_land_31 : decode cX5_land 31 = .ok (.ifCond .eq 7, 3) := by decide +kernel
theorem dX5_land_34 : decode cX5_land 34 = .ok (.iconst 1, 1) := by decide +kernel
theorem dX5_land_35 : decode cX5_land 35 = .ok (.goto 4, 3) := by decide +kernel
theorem dX5_land_38 : decode cX5_land 38 = .ok (.iconst 0, 1) := by decide +kernel
theorem dX5_land_39 : decode cX5_land 39 = .ok (.ireturn, 1) := by decide +kernel
set_option maxRecDepth 20000 in
theorem ggX5_chart_X5_outside : GoodIn wsX5_chart wsX5_outside := goodIn_r _ [5] rfl (by decide +kernel)
set_option maxRecDepth 20000 in
theorem gX5_chart_X5_outside : GoodIn wsX5_chart (va_wsS RX5 60 yX5_outside wsX5_outside) := goodIn_app (goodIn_of _ (by decide +kernel)) ggX5_chart_X5_outside
set_option maxRecDepth 20000 in
theorem ggX5_chart_X2_hasChart : GoodIn wsX5_chart wsX2_hasChart := goodIn_r _ [10, 11, 3, 4, 5, 33, 34, 35] rfl (by decide +kernel)
set_option maxRecDepth 20000 in
theorem gX5_chart_X2_hasChart : GoodIn wsX5_chart (wsV RX5 72 RX2 yX2_hasChart wsX2_hasChart) := goodIn_app (goodIn_of _ (by decide +kernel)) ggX5_chart_X2_hasChart
set_option maxRecDepth 20000 in
theorem ggX5_chart_X2_drawCalm : GoodIn wsX5_chart wsX2_drawCalm := goodIn_r _ [15, 11, 16, 3, 4, 5, 17, 18, 19, 20, 33, 34, 35] rfl (by decide +kernel)
set_option maxRecDepth 20000 in
theorem gX5_chart_X2_drawCalm : GoodIn wsX5_chart (wsV RX5 75 RX2 yX2_drawCalm wsX2_drawCalm) := goodIn_app (goodIn_of _ (by decide +kernel)) ggX5_chart_X2_drawCalm
theorem dX5_chart_0 : decode cX5_chart 0 = .ok (.iload_n 1, 1) := by decide +kernel
theorem dX5_chart_1 : decode cX5_chart 1 = .ok (.bipush 11, 2) := by decide +kernel
theorem dX5_chart_3 : decode cX5_chart 3 = .ok (.invokestatic 60, 3) := by decide +kernel
theorem dX5_chart_6 : decode cX5_chart 6 = .ok (.ifCond .eq 5, 3) := by decide +kernel
theorem dX5_chart_9 : decode cX5_chart 9 = .ok (.iconst (-1), 1) := by decide +kernel
theorem dX5_chart_10 : decode cX5_chart 10 = .ok (.ireturn, 1) := by decide +kernel
theorem dX5_chart_11 : decode cX5_chart 11 = .ok (.aload_n 0, 1) := by decide +kernel
theorem dX5_chart_12 : decode cX5_chart 12 = .ok (.getfield 10, 3) := by decide +kernel
theorem dX5_chart_15 : decode cX5_chart 15 = .ok (.iload_n 1, 1) := by decide +kernel
theorem dX5_chart_16 : decode cX5_chart 16 = .ok (.invokevirtual 72, 3) := by decide +kernel
theorem dX5_chart_19 : decode cX5_chart 19 = .ok (.istore_n 2, 1) := by decide +kernel
theorem dX5_chart_20 : decode cX5_chart 20 = .ok (.aload_n 0, 1) := by decide +kernel
theorem dX5_chart_21 : decode cX5_chart 21 = .ok (.getfield 10, 3) := by decide +kernel
theorem dX5_chart_24 : decode cX5_chart 24 = .ok (.iload_n 1, 1) := by decide +kernel
theorem dX5_chart_25 : decode cX5_chart 25 = .ok (.invokevirtual 75, 3) := by decide +kernel
theorem dX5_chart_28 : decode cX5_chart 28 = .ok (.iload_n 2, 1) := by decide +kernel
theorem dX5_chart_29 : decode cX5_chart 29 = .ok (.ifCond .eq 7, 3) := by decide +kernel
theorem dX5_chart_32 : decode cX5_chart 32 = .ok (.iconst 1, 1) := by decide +kernel
theorem dX5_chart_33 : decode cX5_chart 33 = .ok (.goto 4, 3) := by decide +kernel
theorem dX5_chart_36 : decode cX5_chart 36 = .ok (.iconst 0, 1) := by decide +kernel
theorem dX5_chart_37 : decode cX5_chart 37 = .ok (.ireturn, 1) := by decide +kernel
set_option maxRecDepth 20000 in
theorem ggX5_wind_X5_outside : GoodIn wsX5_wind wsX5_outside := goodIn_r _ [5] rfl (by decide +kernel)
set_option maxRecDepth 20000 in
theorem gX5_wind_X5_outside : GoodIn wsX5_wind (va_wsS RX5 60 yX5_outside wsX5_outside) := goodIn_app (goodIn_of _ (by decide +kernel)) ggX5_wind_X5_outside
set_option maxRecDepth 20000 in
theorem ggX5_wind_X2_hasChart : GoodIn wsX5_wind wsX2_hasChart := goodIn_r _ [10, 11, 3, 4, 5, 40, 41, 42] rfl (by decide +kernel)
set_option maxRecDepth 20000 in
theorem gX5_wind_X2_hasChart : GoodIn wsX5_wind (wsV RX5 72 RX2 yX2_hasChart wsX2_hasChart) := goodIn_app (goodIn_of _ (by decide +kernel)) ggX5_wind_X2_hasChart
set_option maxRecDepth 20000 in
theorem ggX5_wind_X5_found : GoodIn wsX5_wind wsX5_found := goodIn_r _ [15, 16, 17, 28, 29, 30, 31, 32, 33, 34, 35, 36, 37, 38, 39] rfl (by decide +kernel)
set_option maxRecDepth 20000 in
theorem gX5_wind_X5_found : GoodIn wsX5_wind (wsV RX5 79 RX5 yX5_found wsX5_found) := goodIn_app (goodIn_of _ (by decide +kernel)) ggX5_wind_X5_found
set_option maxRecDepth 20000 in
theorem ggX5_wind_X2_drawnAt : GoodIn wsX5_wind wsX2_drawnAt := goodIn_r _ [21, 22, 23, 7, 8, 9, 10, 11, 3, 4, 5, 40, 41, 42] rfl (by decide +kernel)
set_option maxRecDepth 20000 in
theorem gX5_wind_X2_drawnAt : GoodIn wsX5_wind (wsV RX5 83 RX2 yX2_drawnAt wsX2_drawnAt) := goodIn_app (goodIn_of _ (by decide +kernel)) ggX5_wind_X2_drawnAt
set_option maxRecDepth 20000 in
theorem ggX5_wind_X2_drawAt : GoodIn wsX5_wind wsX2_drawAt := goodIn_r _ [27, 22, 23, 7, 8, 9, 10, 11, 3, 4, 5, 40, 41, 42] rfl (by decide +kernel)
set_option maxRecDepth 20000 in
theorem gX5_wind_X2_drawAt : GoodIn wsX5_wind (wsV RX5 87 RX2 yX2_drawAt wsX2_drawAt) := goodIn_app (goodIn_of _ (by decide +kernel)) ggX5_wind_X2_drawAt
theorem dX5_wind_0 : decode cX5_wind 0 = .ok (.iload_n 1, 1) := by decide +kernel
theorem dX5_wind_1 : decode cX5_wind 1 = .ok (.bipush 11, 2) := by decide +kernel
theorem dX5_wind_3 : decode cX5_wind 3 = .ok (.invokestatic 60, 3) := by decide +kernel
theorem dX5_wind_6 : decode cX5_wind 6 = .ok (.ifCond .eq 5, 3) := by decide +kernel
theorem dX5_wind_9 : decode cX5_wind 9 = .ok (.iconst (-1), 1) := by decide +kernel
theorem dX5_wind_10 : decode cX5_wind 10 = .ok (.ireturn, 1) := by decide +kernel
theorem dX5_wind_11 : decode cX5_wind 11 = .ok (.aload_n 0, 1) := by decide +kernel
theorem dX5_wind_12 : decode cX5_wind 12 = .ok (.getfield 10, 3) := by decide +kernel
theorem dX5_wind_15 : decode cX5_wind 15 = .ok (.iload_n 1, 1) := by decide +kernel
theorem dX5_wind_16 : decode cX5_wind 16 = .ok (.invokevirtual 72, 3) := by decide +kernel
theorem dX5_wind_19 : decode cX5_wind 19 = .ok (.ifCond .ne 9, 3) := by decide +kernel
theorem dX5_wind_22 : decode cX5_wind 22 = .ok (.aload_n 0, 1) := by decide +kernel
theorem dX5_wind_23 : decode cX5_wind 23 = .ok (.iconst 1, 1) := by decide +kernel
theorem dX5_wind_24 : decode cX5_wind 24 = .ok (.invokevirtual 79, 3) := by decide +kernel
theorem dX5_wind_27 : decode cX5_wind 27 = .ok (.ireturn, 1) := by decide +kernel
theorem dX5_wind_28 : decode cX5_wind 28 = .ok (.iload_n 2, 1) := by decide +kernel
theorem dX5_wind_29 : decode cX5_wind 29 = .ok (.sipush 159, 3) := by decide +kernel
theorem dX5_wind_32 : decode cX5_wind 32 = .ok (.invokestatic 60, 3) := by decide +kernel
theorem dX5_wind_35 : decode cX5_wind 35 = .ok (.ifCond .eq 9, 3) := by decide +kernel
theorem dX5_wind_38 : decode cX5_wind 38 = .ok (.aload_n 0, 1) := by decide +kernel
theorem dX5_wind_39 : decode cX5_wind 39 = .ok (.iconst 2, 1) := by decide +kernel
theorem dX5_wind_40 : decode cX5_wind 40 = .ok (.invokevirtual 79, 3) := by decide +kernel
theorem dX5_wind_43 : decode cX5_wind 43 = .ok (.ireturn, 1) := by decide +kernel
theorem dX5_wind_44 : decode cX5_wind 44 = .ok (.aload_n 0, 1) := by decide +kernel
theorem dX5_wind_45 : decode cX5_wind 45 = .ok (.getfield 10, 3) := by decide +kernel
theorem dX5_wind_48 : decode cX5_wind 48 = .ok (.iload_n 1, 1) := by decide +kernel
theorem dX5_wind_49 : decode cX5_wind 49 = .ok (.iload_n 2, 1) := by decide +kernel
theorem dX5_wind_50 : decode cX5_wind 50 = .ok (.invokevirtual 83, 3) := by decide +kernel
theorem dX5_wind_53 : decode cX5_wind 53 = .ok (.istore 4, 2) := by decide +kernel
theorem dX5_wind_55 : decode cX5_wind 55 = .ok (.aload_n 0, 1) := by decide +kernel
theorem dX5_wind_56 : decode cX5_wind 56 = .ok (.getfield 10, 3) := by decide +kernel
theorem dX5_wind_59 : decode cX5_wind 59 = .ok (.iload_n 1, 1) := by decide +kernel
theorem dX5_wind_60 : decode cX5_wind 60 = .ok (.iload_n 2, 1) := by decide +kernel
theorem dX5_wind_61 : decode cX5_wind 61 = .ok (.iload_n 3, 1) := by decide +kernel
theorem dX5_wind_62 : decode cX5_wind 62 = .ok (.i2b, 1) := by decide +kernel
theorem dX5_wind_63 : decode cX5_wind 63 = .ok (.invokevirtual 87, 3) := by decide +kernel
theorem dX5_wind_66 : decode cX5_wind 66 = .ok (.iload 4, 2) := by decide +kernel
theorem dX5_wind_68 : decode cX5_wind 68 = .ok (.sipush 1000, 3) := by decide +kernel
theorem dX5_wind_71 : decode cX5_wind 71 = .ok (.iadd, 1) := by decide +kernel
theorem dX5_wind_72 : decode cX5_wind 72 = .ok (.ireturn, 1) := by decide +kernel
set_option maxRecDepth 20000 in
theorem ggX5_tear_X5_outside : GoodIn wsX5_tear wsX5_outside := goodIn_r _ [5] rfl (by decide +kernel)
set_option maxRecDepth 20000 in
theorem gX5_tear_X5_outside : GoodIn wsX5_tear (va_wsS RX5 60 yX5_outside wsX5_outside) := goodIn_app (goodIn_of _ (by decide +kernel)) ggX5_tear_X5_outside
set_option maxRecDepth 20000 in
theorem ggX5_tear_X2_hasChart : GoodIn wsX5_tear wsX2_hasChart := goodIn_r _ [10, 11, 3, 4, 5, 34, 35, 36] rfl (by decide +kernel)
