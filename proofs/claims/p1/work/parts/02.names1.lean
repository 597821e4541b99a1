theorem dX5_init_86 : decode cX5_init 86 = .ok (.return_, 1) := by decide +kernel
set_option maxRecDepth 20000 in
theorem ggX5_land_X5_outside : GoodIn wsX5_land wsX5_outside := goodIn_r _ [5] (by decide +kernel) (by decide +kernel)
set_option maxRecDepth 20000 in
theorem gX5_land_X5_outside : GoodIn wsX5_land (va_wsS RX5 60 yX5_outside wsX5_outside) := goodIn_app (goodIn_of _ (by decide +kernel)) ggX5_land_X5_outside
set_option maxRecDepth 20000 in
theorem ggX5_land_X2_isLand : GoodIn wsX5_land wsX2_isLand := goodIn_r _ [10, 11, 3, 4, 5, 28, 29, 30] (by decide +kernel) (by decide +kernel)
set_option maxRecDepth 20000 in
theorem gX5_land_X2_isLand : GoodIn wsX5_land (wsV RX5 64 RX2 yX2_isLand wsX2_isLand) := goodIn_app (goodIn_of _ (by decide +kernel)) ggX5_land_X2_isLand
set_option maxRecDepth 20000 in
theorem ggX5_land_X2_setLand : GoodIn wsX5_land wsX2_setLand := goodIn_r _ [15, 11, 3, 4, 5, 28, 29, 30] (by decide +kernel) (by decide +kernel)
set_option maxRecDepth 20000 in
theorem gX5_land_X2_setLand : GoodIn wsX5_land (wsV RX5 68 RX2 yX2_setLand wsX2_setLand) := goodIn_app (goodIn_of _ (by decide +kernel)) ggX5_land_X2_setLand
theorem dX5_land_0 : decode cX5_land 0 = .ok (.iload_n 1, 1) := by decide +kernel
theorem dX5_land_1 : decode cX5_land 1 = .ok (.sipush 159, 3) := by decide +kernel
theorem dX5_land_4 : decode cX5_land 4 = .ok (.invokestatic 60, 3) := by decide +kernel
theorem dX5_land_7 : decode cX5_land 7 = .ok (.ifCond .eq 5, 3) := by decide +kernel
theorem dX5_land_10 : decode cX5_land 10 = .ok (.iconst (-1), 1) := by decide +kernel
theorem dX5_land_11 : decode cX5_land 11 = .ok (.ireturn, 1) := by decide +kernel
theorem dX5_land_12 : decode cX5_land 12 = .ok (.aload_n 0, 1) := by decide +kernel
theorem dX5_land_13 : decode cX5_land 13 = .ok (.getfield 10, 3) := by decide +kernel
theorem dX5_land_16 : decode cX5_land 16 = .ok (.iload_n 1, 1) := by decide +kernel
theorem dX5_land_17 : decode cX5_land 17 = .ok (.invokevirtual 64, 3) := by decide +kernel
theorem dX5_land_20 : decode cX5_land 20 = .ok (.istore_n 3, 1) := by decide +kernel
theorem dX5_land_21 : decode cX5_land 21 = .ok (.aload_n 0, 1) := by decide +kernel
theorem dX5_land_22 : decode cX5_land 22 = .ok (.getfield 10, 3) := by decide +kernel
theorem dX5_land_25 : decode cX5_land 25 = .ok (.iload_n 1, 1) := by decide +kernel
theorem dX5_land_26 : decode cX5_land 26 = .ok (.iload_n 2, 1) := by decide +kernel
theorem dX5_land_27 : decode cX5_land 27 = .ok (.invokevirtual 68, 3) := by decide +kernel
theorem dX5_land_30 : decode cX5_land 30 = .ok (.iload_n 3, 1) := by decide +kernel
theorem dX5_land_31 : decode cX5_land 31 = .ok (.ifCond .eq 7, 3) := by decide +kernel
theorem dX5_land_34 : decode cX5_land 34 = .ok (.iconst 1, 1) := by decide +kernel
theorem dX5_land_35 : decode cX5_land 35 = .ok (.goto 4, 3) := by decide +kernel
theorem dX5_land_38 : decode cX5_land 38 = .ok (.iconst 0, 1) := by decide +kernel
theorem dX5_land_39 : decode cX5_land 39 = .ok (.ireturn, 1) := by decide +kernel
set_option maxRecDepth 20000 in
theorem ggX5_chart_X5_outside : GoodIn wsX5_chart wsX5_outside := goodIn_r _ [5] (by decide +kernel) (by decide +kernel)
set_option maxRecDepth 20000 in
theorem gX5_chart_X5_outside : GoodIn wsX5_chart (va_wsS RX5 60 yX5_outside wsX5_outside) := goodIn_app (goodIn_of _ (by decide +kernel)) ggX5_chart_X5_outside
set_option maxRecDepth 20000 in
theorem ggX5_chart_X2_hasChart : GoodIn wsX5_chart wsX2_hasChart := goodIn_r _ [10, 11, 3, 4, 5, 33, 34, 35] (by decide +kernel) (by decide +kernel)
set_option maxRecDepth 20000 in
theorem gX5_chart_X2_hasChart : GoodIn wsX5_chart (wsV RX5 72 RX2 yX2_hasChart wsX2_hasChart) := goodIn_app (goodIn_of _ (by decide +kernel)) ggX5_chart_X2_hasChart
set_option maxRecDepth 20000 in
theorem ggX5_chart_X2_drawCalm : GoodIn wsX5_chart wsX2_drawCalm := goodIn_r _ [15, 11, 16, 3, 4, 5, 17, 18, 19, 20, 33, 34, 35] (by decide +kernel) (by decide +kernel)
set_option maxRecDepth 20000 in
theorem gX5_chart_X2_drawCalm : GoodIn wsX5_chart (wsV RX5 75 RX2 yX2_drawCalm wsX2_drawCalm) := goodIn_app (goodIn_of _ (by decide +kernel)) ggX5_chart_X2_drawCalm
theorem dX5_chart_0 : decode cX5_chart 0 = .ok (.iload_n 1, 1) := by decide +kernel
theorem dX5_chart_1 : decode cX5_chart 1 = .ok (.bipush 11, 2) := by decide +kernel
theorem dX5_chart_3 : decode cX5_chart 3 = .ok (.invokestatic 60, 3) := by decide +kernel
theorem dX5_chart_6 : decode cX5_chart 6 = .ok (.ifCond .eq 5, 3) := by decide +kernel
theorem dX5_chart_9 : decode cX5_chart 9 = .ok (.iconst (-1), 1) := by decide +kernel
theorem dX5_chart_10 : decode cX5_chart 10 = .ok (.ireturn, 1) := by decide +kernel
theorem dX5_chart_11 : decode cX5_chart 11 = .ok (.aload_n 0, 1) := by decide +kernel
theorem dX5_chart_12 : decode cX5_chart 12 = .ok (.getfield 10, 3) := by decide +kernel
theorem dX5_chart_15 : decode cX5_chart 15 = .ok (.iload_n 1, 1) := by decide +kernel
theorem dX5_chart_16 : decode cX5_chart 16 = .ok (.invokevirtual 72, 3) := by decide +kernel
theorem dX5_chart_19 : decode cX5_chart 19 = .ok (.istore_n 2, 1) := by decide +kernel
theorem dX5_chart_20 : decode cX5_chart 20 = .ok (.aload_n 0, 1) := by decide +kernel
theorem dX5_chart_21 : decode cX5_chart 21 = .ok (.getfield 10, 3) := by decide +kernel
theorem dX5_chart_24 : decode cX5_chart 24 = .ok (.iload_n 1, 1) := by decide +kernel
theorem dX5_chart_25 : decode cX5_chart 25 = .ok (.invokevirtual 75, 3) := by decide +kernel
theorem dX5_chart_28 : decode cX5_chart 28 = .ok (.iload_n 2, 1) := by decide +kernel
theorem dX5_chart_29 : decode cX5_chart 29 = .ok (.ifCond .eq 7, 3) := by decide +kernel
theorem dX5_chart_32 : decode cX5_chart 32 = .ok (.iconst 1, 1) := by decide +kernel
theorem dX5_chart_33 : decode cX5_chart 33 = .ok (.goto 4, 3) := by decide +kernel
theorem dX5_chart_36 : decode cX5_chart 36 = .ok (.iconst 0, 1) := by decide +kernel
theorem dX5_chart_37 : decode cX5_chart 37 = .ok (.ireturn, 1) := by decide +kernel
set_option maxRecDepth 20000 in
theorem ggX5_wind_X5_outside : GoodIn wsX5_wind wsX5_outside := goodIn_r _ [5] (by decide +kernel) (by decide +kernel)
set_option maxRecDepth 20000 in
theorem gX5_wind_X5_outside : GoodIn wsX5_wind (va_wsS RX5 60 yX5_outside wsX5_outside) := goodIn_app (goodIn_of _ (by decide +kernel)) ggX5_wind_X5_outside
set_option maxRecDepth 20000 in
theorem ggX5_wind_X2_hasChart : GoodIn wsX5_wind wsX2_hasChart := goodIn_r _ [10, 11, 3, 4, 5, 40, 41, 42] (by decide +kernel) (by decide +kernel)
set_option maxRecDepth 20000 in
theorem gX5_wind_X2_hasChart : GoodIn wsX5_wind (wsV RX5 72 RX2 yX2_hasChart wsX2_hasChart) := goodIn_app (goodIn_of _ (by decide +kernel)) ggX5_wind_X2_hasChart
set_option maxRecDepth 20000 in
theorem ggX5_wind_X5_found : GoodIn wsX5_wind wsX5_found := goodIn_r _ [15, 16, 17, 28, 29, 30, 31, 32, 33, 34, 35, 36, 37, 38, 39] (by decide +kernel) (by decide +kernel)
set_option maxRecDepth 20000 in
theorem gX5_wind_X5_found : GoodIn wsX5_wind (wsV RX5 79 RX5 yX5_found wsX5_found) := goodIn_app (goodIn_of _ (by decide +kernel)) ggX5_wind_X5_found
set_option maxRecDepth 20000 in
theorem ggX5_wind_X2_drawnAt : GoodIn wsX5_wind wsX2_drawnAt := goodIn_r _ [21, 22, 23, 7, 8, 9, 10, 11, 3, 4, 5, 40, 41, 42] (by decide +kernel) (by decide +kernel)
set_option maxRecDepth 20000 in
theorem gX5_wind_X2_drawnAt : GoodIn wsX5_wind (wsV RX5 83 RX2 yX2_drawnAt wsX2_drawnAt) := goodIn_app (goodIn_of _ (by decide +kernel)) ggX5_wind_X2_drawnAt
set_option maxRecDepth 20000 in
theorem ggX5_wind_X2_drawAt : GoodIn wsX5_wind wsX2_drawAt := goodIn_r _ [27, 22, 23, 7, 8, 9, 10, 11, 3, 4, 5, 40, 41, 42] (by decide +kernel) (by decide +kernel)
set_option maxRecDepth 20000 in
theorem gX5_wind_X2_drawAt : GoodIn wsX5_wind (wsV RX5 87 RX2 yX2_drawAt wsX2_drawAt) := goodIn_app (goodIn_of _ (by decide +kernel)) ggX5_wind_X2_drawAt
theorem dX5_wind_0 : decode cX5_wind 0 = .ok (.iload_n 1, 1) := by decide +kernel
theorem dX5_wind_1 : decode cX5_wind 1 = .ok (.bipush 11, 2) := by decide +kernel
theorem dX5_wind_3 : decode cX5_wind 3 = .ok (.invokestatic 60, 3) := by decide +kernel
theorem dX5_wind_6 : decode cX5_wind 6 = .ok (.ifCond .eq 5, 3) := by decide +kernel
theorem dX5_wind_9 : decode cX5_wind 9 = .ok (.iconst (-1), 1) := by decide +kernel
theorem dX5_wind_10 : decode cX5_wind 10 = .ok (.ireturn, 1) := by decide +kernel
theorem dX5_wind_11 : decode cX5_wind 11 = .ok (.aload_n 0, 1) := by decide +kernel
theorem dX5_wind_12 : decode cX5_wind 12 = .ok (.getfield 10, 3) := by decide +kernel
theorem dX5_wind_15 : decode cX5_wind 15 = .ok (.iload_n 1, 1) := by decide +kernel
theorem dX5_wind_16 : decode cX5_wind 16 = .ok (.invokevirtual 72, 3) := by decide +kernel
theorem dX5_wind_19 : decode cX5_wind 19 = .ok (.ifCond .ne 9, 3) := by decide +kernel
theorem dX5_wind_22 : decode cX5_wind 22 = .ok (.aload_n 0, 1) := by decide +kernel
theorem dX5_wind_23 : decode cX5_wind 23 = .ok (.iconst 1, 1) := by decide +kernel
theorem dX5_wind_24 : decode cX5_wind 24 = .ok (.invokevirtual 79, 3) := by decide +kernel
theorem dX5_wind_27 : decode cX5_wind 27 = .ok (.ireturn, 1) := by decide +kernel
theorem dX5_wind_28 : decode cX5_wind 28 = .ok (.iload_n 2, 1) := by decide +kernel
theorem dX5_wind_29 : decode cX5_wind 29 = .ok (.sipush 159, 3) := by decide +kernel
theorem dX5_wind_32 : decode cX5_wind 32 = .ok (.invokestatic 60, 3) := by decide +kernel
theorem dX5_wind_35 : decode cX5_wind 35 = .ok (.ifCond .eq 9, 3) := by decide +kernel
theorem dX5_wind_38 : decode cX5_wind 38 = .ok (.aload_n 0, 1) := by decide +kernel
theorem dX5_wind_39 : decode cX5_wind 39 = .ok (.iconst 2, 1) := by decide +kernel
theorem dX5_wind_40 : decode cX5_wind 40 = .ok (.invokevirtual 79, 3) := by decide +kernel
theorem dX5_wind_43 : decode cX5_wind 43 = .ok (.ireturn, 1) := by decide +kernel
theorem dX5_wind_44 : decode cX5_wind 44 = .ok (.aload_n 0, 1) := by decide +kernel
theorem dX5_wind_45 : decode cX5_wind 45 = .ok (.getfield 10, 3) := by decide +kernel
theorem dX5_wind_48 : decode cX5_wind 48 = .ok (.iload_n 1, 1) := by decide +kernel
theorem dX5_wind_49 : decode cX5_wind 49 = .ok (.iload_n 2, 1) := by decide +kernel
theorem dX5_wind_50 : decode cX5_wind 50 = .ok (.invokevirtual 83, 3) := by decide +kernel
theorem dX5_wind_53 : decode cX5_wind 53 = .ok (.istore 4, 2) := by decide +kernel
theorem dX5_wind_55 : decode cX5_wind 55 = .ok (.aload_n 0, 1) := by decide +kernel
theorem dX5_wind_56 : decode cX5_wind 56 = .ok (.getfield 10, 3) := by decide +kernel
theorem dX5_wind_59 : decode cX5_wind 59 = .ok (.iload_n 1, 1) := by decide +kernel
theorem dX5_wind_60 : decode cX5_wind 60 = .ok (.iload_n 2, 1) := by decide +kernel
theorem dX5_wind_61 : decode cX5_wind 61 = .ok (.iload_n 3, 1) := by decide +kernel
theorem dX5_wind_62 : decode cX5_wind 62 = .ok (.i2b, 1) := by decide +kernel
theorem dX5_wind_63 : decode cX5_wind 63 = .ok (.invokevirtual 87, 3) := by decide +kernel
theorem dX5_wind_66 : decode cX5_wind 66 = .ok (.iload 4, 2) := by decide +kernel
theorem dX5_wind_68 : decode cX5_wind 68 = .ok (.sipush 1000, 3) := by decide +kernel
theorem dX5_wind_71 : decode cX5_wind 71 = .ok (.iadd, 1) := by decide +kernel
theorem dX5_wind_72 : decode cX5_wind 72 = .ok (.ireturn, 1) := by decide +kernel
set_option maxRecDepth 20000 in
theorem ggX5_tear_X5_outside : GoodIn wsX5_tear wsX5_outside := goodIn_r _ [5] (by decide +kernel) (by decide +kernel)
set_option maxRecDepth 20000 in
theorem gX5_tear_X5_outside : GoodIn wsX5_tear (va_wsS RX5 60 yX5_outside wsX5_outside) := goodIn_app (goodIn_of _ (by decide +kernel)) ggX5_tear_X5_outside
set_option maxRecDepth 20000 in
theorem ggX5_tear_X2_hasChart : GoodIn wsX5_tear wsX2_hasChart := goodIn_r _ [10, 11, 3, 4, 5, 34, 35, 36] (by decide +kernel) (by decide +kernel)
set_option maxRecDepth 20000 in
theorem gX5_tear_X2_hasChart : GoodIn wsX5_tear (wsV RX5 72 RX2 yX2_hasChart wsX2_hasChart) := goodIn_app (goodIn_of _ (by decide +kernel)) ggX5_tear_X2_hasChart
set_option maxRecDepth 20000 in
theorem ggX5_tear_X5_found : GoodIn wsX5_tear wsX5_found := goodIn_r _ [15, 16, 17, 22, 23, 24, 25, 26, 27, 28, 29, 30, 31, 32, 33] (by decide +kernel) (by decide +kernel)
set_option maxRecDepth 20000 in
theorem gX5_tear_X5_found : GoodIn wsX5_tear (wsV RX5 79 RX5 yX5_found wsX5_found) := goodIn_app (goodIn_of _ (by decide +kernel)) ggX5_tear_X5_found
set_option maxRecDepth 20000 in
theorem ggX5_tear_X2_loseChart : GoodIn wsX5_tear wsX2_loseChart := goodIn_r _ [21, 11, 3, 4, 5, 34, 35, 36] (by decide +kernel) (by decide +kernel)
set_option maxRecDepth 20000 in
theorem gX5_tear_X2_loseChart : GoodIn wsX5_tear (wsV RX5 91 RX2 yX2_loseChart wsX2_loseChart) := goodIn_app (goodIn_of _ (by decide +kernel)) ggX5_tear_X2_loseChart
theorem dX5_tear_0 : decode cX5_tear 0 = .ok (.iload_n 1, 1) := by decide +kernel
theorem dX5_tear_1 : decode cX5_tear 1 = .ok (.bipush 11, 2) := by decide +kernel
theorem dX5_tear_3 : decode cX5_tear 3 = .ok (.invokestatic 60, 3) := by decide +kernel
theorem dX5_tear_6 : decode cX5_tear 6 = .ok (.ifCond .eq 5, 3) := by decide +kernel
theorem dX5_tear_9 : decode cX5_tear 9 = .ok (.iconst (-1), 1) := by decide +kernel
theorem dX5_tear_10 : decode cX5_tear 10 = .ok (.ireturn, 1) := by decide +kernel
theorem dX5_tear_11 : decode cX5_tear 11 = .ok (.aload_n 0, 1) := by decide +kernel
theorem dX5_tear_12 : decode cX5_tear 12 = .ok (.getfield 10, 3) := by decide +kernel
theorem dX5_tear_15 : decode cX5_tear 15 = .ok (.iload_n 1, 1) := by decide +kernel
theorem dX5_tear_16 : decode cX5_tear 16 = .ok (.invokevirtual 72, 3) := by decide +kernel
theorem dX5_tear_19 : decode cX5_tear 19 = .ok (.ifCond .ne 9, 3) := by decide +kernel
theorem dX5_tear_22 : decode cX5_tear 22 = .ok (.aload_n 0, 1) := by decide +kernel
theorem dX5_tear_23 : decode cX5_tear 23 = .ok (.iconst 1, 1) := by decide +kernel
theorem dX5_tear_24 : decode cX5_tear 24 = .ok (.invokevirtual 79, 3) := by decide +kernel
theorem dX5_tear_27 : decode cX5_tear 27 = .ok (.ireturn, 1) := by decide +kernel
theorem dX5_tear_28 : decode cX5_tear 28 = .ok (.aload_n 0, 1) := by decide +kernel
theorem dX5_tear_29 : decode cX5_tear 29 = .ok (.getfield 10, 3) := by decide +kernel
theorem dX5_tear_32 : decode cX5_tear 32 = .ok (.iload_n 1, 1) := by decide +kernel
theorem dX5_tear_33 : decode cX5_tear 33 = .ok (.invokevirtual 91, 3) := by decide +kernel
theorem dX5_tear_36 : decode cX5_tear 36 = .ok (.iconst 1, 1) := by decide +kernel
theorem dX5_tear_37 : decode cX5_tear 37 = .ok (.ireturn, 1) := by decide +kernel
set_option maxRecDepth 20000 in
theorem ggX5_copy_X5_outside : GoodIn wsX5_copy wsX5_outside := goodIn_r _ [5] (by decide +kernel) (by decide +kernel)
set_option maxRecDepth 20000 in
theorem gX5_copy_X5_outside : GoodIn wsX5_copy (va_wsS RX5 60 yX5_outside wsX5_outside) := goodIn_app (goodIn_of _ (by decide +kernel)) ggX5_copy_X5_outside
set_option maxRecDepth 20000 in
theorem ggX5_copy_X5_found : GoodIn wsX5_copy wsX5_found := goodIn_r _ [9, 10, 11, 28, 29, 30, 31, 32, 33, 34, 35, 36, 37, 38, 39] (by decide +kernel) (by decide +kernel)
set_option maxRecDepth 20000 in
theorem gX5_copy_X5_found : GoodIn wsX5_copy (wsV RX5 79 RX5 yX5_found wsX5_found) := goodIn_app (goodIn_of _ (by decide +kernel)) ggX5_copy_X5_found
set_option maxRecDepth 20000 in
theorem ggX5_copy_X2_hasChart : GoodIn wsX5_copy wsX2_hasChart := goodIn_r _ [16, 17, 3, 4, 5, 40, 41, 42] (by decide +kernel) (by decide +kernel)
set_option maxRecDepth 20000 in
theorem gX5_copy_X2_hasChart : GoodIn wsX5_copy (wsV RX5 72 RX2 yX2_hasChart wsX2_hasChart) := goodIn_app (goodIn_of _ (by decide +kernel)) ggX5_copy_X2_hasChart
set_option maxRecDepth 20000 in
theorem ggX5_copy_X2_copyChart : GoodIn wsX5_copy wsX2_copyChart := goodIn_r _ [21, 22, 23, 24, 25, 26, 27, 13, 14, 15, 16, 17, 3, 4, 5, 40, 41, 42] (by decide +kernel) (by decide +kernel)
set_option maxRecDepth 20000 in
theorem gX5_copy_X2_copyChart : GoodIn wsX5_copy (wsV RX5 94 RX2 yX2_copyChart wsX2_copyChart) := goodIn_app (goodIn_of _ (by decide +kernel)) ggX5_copy_X2_copyChart
theorem dX5_copy_0 : decode cX5_copy 0 = .ok (.iload_n 1, 1) := by decide +kernel
theorem dX5_copy_1 : decode cX5_copy 1 = .ok (.bipush 11, 2) := by decide +kernel
theorem dX5_copy_3 : decode cX5_copy 3 = .ok (.invokestatic 60, 3) := by decide +kernel
theorem dX5_copy_6 : decode cX5_copy 6 = .ok (.ifCond .ne 12, 3) := by decide +kernel
theorem dX5_copy_9 : decode cX5_copy 9 = .ok (.iload_n 3, 1) := by decide +kernel
theorem dX5_copy_10 : decode cX5_copy 10 = .ok (.bipush 11, 2) := by decide +kernel
theorem dX5_copy_12 : decode cX5_copy 12 = .ok (.invokestatic 60, 3) := by decide +kernel
theorem dX5_copy_15 : decode cX5_copy 15 = .ok (.ifCond .eq 5, 3) := by decide +kernel
theorem dX5_copy_18 : decode cX5_copy 18 = .ok (.iconst (-1), 1) := by decide +kernel
theorem dX5_copy_19 : decode cX5_copy 19 = .ok (.ireturn, 1) := by decide +kernel
theorem dX5_copy_20 : decode cX5_copy 20 = .ok (.iload 5, 2) := by decide +kernel
theorem dX5_copy_22 : decode cX5_copy 22 = .ok (.ifCond .ge 9, 3) := by decide +kernel
theorem dX5_copy_25 : decode cX5_copy 25 = .ok (.aload_n 0, 1) := by decide +kernel
theorem dX5_copy_26 : decode cX5_copy 26 = .ok (.iconst 5, 1) := by decide +kernel
theorem dX5_copy_27 : decode cX5_copy 27 = .ok (.invokevirtual 79, 3) := by decide +kernel
theorem dX5_copy_30 : decode cX5_copy 30 = .ok (.ireturn, 1) := by decide +kernel
theorem dX5_copy_31 : decode cX5_copy 31 = .ok (.aload_n 0, 1) := by decide +kernel
theorem dX5_copy_32 : decode cX5_copy 32 = .ok (.getfield 10, 3) := by decide +kernel
theorem dX5_copy_35 : decode cX5_copy 35 = .ok (.iload_n 1, 1) := by decide +kernel
theorem dX5_copy_36 : decode cX5_copy 36 = .ok (.invokevirtual 72, 3) := by decide +kernel
theorem dX5_copy_39 : decode cX5_copy 39 = .ok (.ifCond .eq 14, 3) := by decide +kernel
theorem dX5_copy_42 : decode cX5_copy 42 = .ok (.aload_n 0, 1) := by decide +kernel
theorem dX5_copy_43 : decode cX5_copy 43 = .ok (.getfield 10, 3) := by decide +kernel
theorem dX5_copy_46 : decode cX5_copy 46 = .ok (.iload_n 3, 1) := by decide +kernel
theorem dX5_copy_47 : decode cX5_copy 47 = .ok (.invokevirtual 72, 3) := by decide +kernel
theorem dX5_copy_50 : decode cX5_copy 50 = .ok (.ifCond .ne 9, 3) := by decide +kernel
theorem dX5_copy_53 : decode cX5_copy 53 = .ok (.aload_n 0, 1) := by decide +kernel
theorem dX5_copy_54 : decode cX5_copy 54 = .ok (.iconst 1, 1) := by decide +kernel
theorem dX5_copy_55 : decode cX5_copy 55 = .ok (.invokevirtual 79, 3) := by decide +kernel
theorem dX5_copy_58 : decode cX5_copy 58 = .ok (.ireturn, 1) := by decide +kernel
theorem dX5_copy_59 : decode cX5_copy 59 = .ok (.iload_n 2, 1) := by decide +kernel
theorem dX5_copy_60 : decode cX5_copy 60 = .ok (.sipush 160, 3) := by decide +kernel
theorem dX5_copy_63 : decode cX5_copy 63 = .ok (.iload 5, 2) := by decide +kernel
theorem dX5_copy_65 : decode cX5_copy 65 = .ok (.isub, 1) := by decide +kernel
theorem dX5_copy_66 : decode cX5_copy 66 = .ok (.invokestatic 60, 3) := by decide +kernel
theorem dX5_copy_69 : decode cX5_copy 69 = .ok (.ifCond .ne 17, 3) := by decide +kernel
theorem dX5_copy_72 : decode cX5_copy 72 = .ok (.iload 4, 2) := by decide +kernel
theorem dX5_copy_74 : decode cX5_copy 74 = .ok (.sipush 160, 3) := by decide +kernel
theorem dX5_copy_77 : decode cX5_copy 77 = .ok (.iload 5, 2) := by decide +kernel
theorem dX5_copy_79 : decode cX5_copy 79 = .ok (.isub, 1) := by decide +kernel
theorem dX5_copy_80 : decode cX5_copy 80 = .ok (.invokestatic 60, 3) := by decide +kernel
theorem dX5_copy_83 : decode cX5_copy 83 = .ok (.ifCond .eq 9, 3) := by decide +kernel
theorem dX5_copy_86 : decode cX5_copy 86 = .ok (.aload_n 0, 1) := by decide +kernel
theorem dX5_copy_87 : decode cX5_copy 87 = .ok (.iconst 2, 1) := by decide +kernel
theorem dX5_copy_88 : decode cX5_copy 88 = .ok (.invokevirtual 79, 3) := by decide +kernel
theorem dX5_copy_91 : decode cX5_copy 91 = .ok (.ireturn, 1) := by decide +kernel
theorem dX5_copy_92 : decode cX5_copy 92 = .ok (.aload_n 0, 1) := by decide +kernel
theorem dX5_copy_93 : decode cX5_copy 93 = .ok (.getfield 10, 3) := by decide +kernel
theorem dX5_copy_96 : decode cX5_copy 96 = .ok (.iload_n 1, 1) := by decide +kernel
theorem dX5_copy_97 : decode cX5_copy 97 = .ok (.iload_n 2, 1) := by decide +kernel
theorem dX5_copy_98 : decode cX5_copy 98 = .ok (.iload_n 3, 1) := by decide +kernel
theorem dX5_copy_99 : decode cX5_copy 99 = .ok (.iload 4, 2) := by decide +kernel
theorem dX5_copy_101 : decode cX5_copy 101 = .ok (.iload 5, 2) := by decide +kernel
theorem dX5_copy_103 : decode cX5_copy 103 = .ok (.invokevirtual 94, 3) := by decide +kernel
theorem dX5_copy_106 : decode cX5_copy 106 = .ok (.iconst 1, 1) := by decide +kernel
theorem dX5_copy_107 : decode cX5_copy 107 = .ok (.ireturn, 1) := by decide +kernel
set_option maxRecDepth 20000 in
theorem ggX5_mean_X5_outside : GoodIn wsX5_mean wsX5_outside := goodIn_r _ [5] (by decide +kernel) (by decide +kernel)
set_option maxRecDepth 20000 in
theorem gX5_mean_X5_outside : GoodIn wsX5_mean (va_wsS RX5 60 yX5_outside wsX5_outside) := goodIn_app (goodIn_of _ (by decide +kernel)) ggX5_mean_X5_outside
set_option maxRecDepth 20000 in
theorem ggX5_mean_X2_hasChart : GoodIn wsX5_mean wsX2_hasChart := goodIn_r _ [10, 11, 3, 4, 5, 38, 39, 40] (by decide +kernel) (by decide +kernel)
set_option maxRecDepth 20000 in
theorem gX5_mean_X2_hasChart : GoodIn wsX5_mean (wsV RX5 72 RX2 yX2_hasChart wsX2_hasChart) := goodIn_app (goodIn_of _ (by decide +kernel)) ggX5_mean_X2_hasChart
set_option maxRecDepth 20000 in
theorem ggX5_mean_X5_found : GoodIn wsX5_mean wsX5_found := goodIn_r _ [15, 16, 17, 26, 27, 28, 29, 30, 31, 32, 33, 34, 35, 36, 37] (by decide +kernel) (by decide +kernel)
set_option maxRecDepth 20000 in
theorem gX5_mean_X5_found : GoodIn wsX5_mean (wsV RX5 79 RX5 yX5_found wsX5_found) := goodIn_app (goodIn_of _ (by decide +kernel)) ggX5_mean_X5_found
set_option maxRecDepth 20000 in
theorem ggX5_mean_X2_windIn : GoodIn wsX5_mean wsX2_windIn := goodIn_r _ [21, 11, 22, 3, 4, 5, 38, 39, 40] (by decide +kernel) (by decide +kernel)
set_option maxRecDepth 20000 in
theorem gX5_mean_X2_windIn : GoodIn wsX5_mean (wsV RX5 98 RX2 yX2_windIn wsX2_windIn) := goodIn_app (goodIn_of _ (by decide +kernel)) ggX5_mean_X2_windIn
set_option maxRecDepth 20000 in
theorem ggX5_mean_X5_strengthOf : GoodIn wsX5_mean wsX5_strengthOf := goodIn_r _ [25] (by decide +kernel) (by decide +kernel)
set_option maxRecDepth 20000 in
theorem gX5_mean_X5_strengthOf : GoodIn wsX5_mean (va_wsS RX5 101 yX5_strengthOf wsX5_strengthOf) := goodIn_app (goodIn_of _ (by decide +kernel)) ggX5_mean_X5_strengthOf
theorem dX5_mean_0 : decode cX5_mean 0 = .ok (.iload_n 1, 1) := by decide +kernel
theorem dX5_mean_1 : decode cX5_mean 1 = .ok (.bipush 11, 2) := by decide +kernel
theorem dX5_mean_3 : decode cX5_mean 3 = .ok (.invokestatic 60, 3) := by decide +kernel
theorem dX5_mean_6 : decode cX5_mean 6 = .ok (.ifCond .eq 5, 3) := by decide +kernel
theorem dX5_mean_9 : decode cX5_mean 9 = .ok (.iconst (-1), 1) := by decide +kernel
theorem dX5_mean_10 : decode cX5_mean 10 = .ok (.ireturn, 1) := by decide +kernel
theorem dX5_mean_11 : decode cX5_mean 11 = .ok (.aload_n 0, 1) := by decide +kernel
theorem dX5_mean_12 : decode cX5_mean 12 = .ok (.getfield 10, 3) := by decide +kernel
theorem dX5_mean_15 : decode cX5_mean 15 = .ok (.iload_n 1, 1) := by decide +kernel
theorem dX5_mean_16 : decode cX5_mean 16 = .ok (.invokevirtual 72, 3) := by decide +kernel
theorem dX5_mean_19 : decode cX5_mean 19 = .ok (.ifCond .ne 9, 3) := by decide +kernel
theorem dX5_mean_22 : decode cX5_mean 22 = .ok (.aload_n 0, 1) := by decide +kernel
theorem dX5_mean_23 : decode cX5_mean 23 = .ok (.iconst 1, 1) := by decide +kernel
theorem dX5_mean_24 : decode cX5_mean 24 = .ok (.invokevirtual 79, 3) := by decide +kernel
theorem dX5_mean_27 : decode cX5_mean 27 = .ok (.ireturn, 1) := by decide +kernel
theorem dX5_mean_28 : decode cX5_mean 28 = .ok (.iconst 0, 1) := by decide +kernel
theorem dX5_mean_29 : decode cX5_mean 29 = .ok (.istore_n 2, 1) := by decide +kernel
theorem dX5_mean_30 : decode cX5_mean 30 = .ok (.iconst 0, 1) := by decide +kernel
theorem dX5_mean_31 : decode cX5_mean 31 = .ok (.istore_n 3, 1) := by decide +kernel
theorem dX5_mean_32 : decode cX5_mean 32 = .ok (.iload_n 3, 1) := by decide +kernel
theorem dX5_mean_33 : decode cX5_mean 33 = .ok (.sipush 160, 3) := by decide +kernel
theorem dX5_mean_36 : decode cX5_mean 36 = .ok (.if_icmp .ge 24, 3) := by decide +kernel
theorem dX5_mean_39 : decode cX5_mean 39 = .ok (.iload_n 2, 1) := by decide +kernel
theorem dX5_mean_40 : decode cX5_mean 40 = .ok (.aload_n 0, 1) := by decide +kernel
theorem dX5_mean_41 : decode cX5_mean 41 = .ok (.getfield 10, 3) := by decide +kernel
theorem dX5_mean_44 : decode cX5_mean 44 = .ok (.iload_n 1, 1) := by decide +kernel
theorem dX5_mean_45 : decode cX5_mean 45 = .ok (.iload_n 3, 1) := by decide +kernel
theorem dX5_mean_46 : decode cX5_mean 46 = .ok (.invokevirtual 98, 3) := by decide +kernel
theorem dX5_mean_49 : decode cX5_mean 49 = .ok (.invokestatic 101, 3) := by decide +kernel
theorem dX5_mean_52 : decode cX5_mean 52 = .ok (.iadd, 1) := by decide +kernel
theorem dX5_mean_53 : decode cX5_mean 53 = .ok (.istore_n 2, 1) := by decide +kernel
theorem dX5_mean_54 : decode cX5_mean 54 = .ok (.iinc 3 1, 3) := by decide +kernel
theorem dX5_mean_57 : decode cX5_mean 57 = .ok (.goto (-25), 3) := by decide +kernel
theorem dX5_mean_60 : decode cX5_mean 60 = .ok (.iload_n 2, 1) := by decide +kernel
theorem dX5_mean_61 : decode cX5_mean 61 = .ok (.sipush 160, 3) := by decide +kernel
theorem dX5_mean_64 : decode cX5_mean 64 = .ok (.idiv, 1) := by decide +kernel
theorem dX5_mean_65 : decode cX5_mean 65 = .ok (.ireturn, 1) := by decide +kernel
set_option maxRecDepth 20000 in
theorem ggX5_ship_X5_outside : GoodIn wsX5_ship wsX5_outside := goodIn_r _ [9] (by decide +kernel) (by decide +kernel)
set_option maxRecDepth 20000 in
theorem gX5_ship_X5_outside : GoodIn wsX5_ship (va_wsS RX5 60 yX5_outside wsX5_outside) := goodIn_app (goodIn_of _ (by decide +kernel)) ggX5_ship_X5_outside
set_option maxRecDepth 20000 in
theorem ggX5_ship_X5_isNoWater : GoodIn wsX5_ship wsX5_isNoWater := goodIn_r _ [13, 14, 6, 7, 8, 9, 15, 16, 17, 18, 19, 20, 116, 117, 118, 119, 120, 121, 122, 123, 124, 125, 126, 127, 142, 143, 144] (by decide +kernel) (by decide +kernel)
set_option maxRecDepth 20000 in
theorem gX5_ship_X5_isNoWater : GoodIn wsX5_ship (wsV RX5 104 RX5 yX5_isNoWater wsX5_isNoWater) := goodIn_app (goodIn_of _ (by decide +kernel)) ggX5_ship_X5_isNoWater
set_option maxRecDepth 20000 in
theorem ggX5_ship_Jx4a65c_size_8abf5 : GoodIn wsX5_ship wsJx4a65c_size_8abf5 := goodIn_r _ [25, 26, 145, 146, 147] (by decide +kernel) (by decide +kernel)
set_option maxRecDepth 20000 in
theorem gX5_ship_Jx4a65c_size_8abf5_f107Jx4a65c : GoodIn wsX5_ship (va_wsF RX5 107 RJx4a65c ⟨"java/util/List", "size", "()I"⟩ yJx4a65c_size_8abf5 wsJx4a65c_size_8abf5) := goodIn_app (goodIn_of _ (by decide +kernel)) ggX5_ship_Jx4a65c_size_8abf5
set_option maxRecDepth 20000 in
theorem ggX5_ship_X3_init : GoodIn wsX5_ship wsX3_init := goodIn_r _ [29, 30, 31, 32, 33, 34, 24, 35, 36, 37, 38, 39, 40, 41, 42, 43, 44, 45, 46, 47, 48, 49, 50, 51, 52, 53, 54, 55, 56, 57, 58, 59, 60, 61, 62, 63, 145, 146, 147, 128, 129, 130, 131, 132, 133, 134, 135, 136, 137, 138, 139, 140, 141] (by decide +kernel) (by decide +kernel)
set_option maxRecDepth 20000 in
theorem gX5_ship_X3_init : GoodIn wsX5_ship (wsX3_init) := ggX5_ship_X3_init
set_option maxRecDepth 20000 in
theorem ggX5_ship_Jx4a65c_add_9ea2d : GoodIn wsX5_ship wsJx4a65c_add_9ea2d := goodIn_r _ [67, 68, 69, 53, 26, 70, 71, 72, 24, 73, 74, 75, 76, 77, 78, 79, 80, 81, 52, 82, 83, 84, 85, 86, 87, 88, 89, 90, 91, 92, 93, 94, 95, 96, 97, 98, 99, 100, 101, 102, 103, 104, 105, 106, 107, 108, 109, 110, 111, 112, 113, 114, 115, 145, 146, 147] (by decide +kernel) (by decide +kernel)
set_option maxRecDepth 20000 in
theorem gX5_ship_Jx4a65c_add_9ea2d_f118Jx4a65c : GoodIn wsX5_ship (va_wsF RX5 118 RJx4a65c ⟨"java/util/List", "add", "(Ljava/lang/Object;)Z"⟩ yJx4a65c_add_9ea2d wsJx4a65c_add_9ea2d) := goodIn_app (goodIn_of _ (by decide +kernel)) ggX5_ship_Jx4a65c_add_9ea2d
theorem dX5_ship_0 : decode cX5_ship 0 = .ok (.iload_n 1, 1) := by decide +kernel
theorem dX5_ship_1 : decode cX5_ship 1 = .ok (.iconst 3, 1) := by decide +kernel
theorem dX5_ship_2 : decode cX5_ship 2 = .ok (.invokestatic 60, 3) := by decide +kernel
theorem dX5_ship_5 : decode cX5_ship 5 = .ok (.ifCond .ne 21, 3) := by decide +kernel
theorem dX5_ship_8 : decode cX5_ship 8 = .ok (.aload_n 0, 1) := by decide +kernel
theorem dX5_ship_9 : decode cX5_ship 9 = .ok (.iload_n 2, 1) := by decide +kernel
theorem dX5_ship_10 : decode cX5_ship 10 = .ok (.invokevirtual 104, 3) := by decide +kernel
theorem dX5_ship_13 : decode cX5_ship 13 = .ok (.ifCond .ne 13, 3) := by decide +kernel
theorem dX5_ship_16 : decode cX5_ship 16 = .ok (.iload_n 3, 1) := by decide +kernel
theorem dX5_ship_17 : decode cX5_ship 17 = .ok (.sipush 20000, 3) := by decide +kernel
theorem dX5_ship_20 : decode cX5_ship 20 = .ok (.invokestatic 60, 3) := by decide +kernel
theorem dX5_ship_23 : decode cX5_ship 23 = .ok (.ifCond .eq 5, 3) := by decide +kernel
theorem dX5_ship_26 : decode cX5_ship 26 = .ok (.iconst (-1), 1) := by decide +kernel
theorem dX5_ship_27 : decode cX5_ship 27 = .ok (.ireturn, 1) := by decide +kernel
theorem dX5_ship_28 : decode cX5_ship 28 = .ok (.aload_n 0, 1) := by decide +kernel
theorem dX5_ship_29 : decode cX5_ship 29 = .ok (.getfield 26, 3) := by decide +kernel
theorem dX5_ship_32 : decode cX5_ship 32 = .ok (.invokeinterface 107 1, 5) := by decide +kernel
theorem dX5_ship_37 : decode cX5_ship 37 = .ok (.bipush 8, 2) := by decide +kernel
theorem dX5_ship_39 : decode cX5_ship 39 = .ok (.if_icmp .lt 6, 3) := by decide +kernel
theorem dX5_ship_42 : decode cX5_ship 42 = .ok (.bipush (-2), 2) := by decide +kernel
theorem dX5_ship_44 : decode cX5_ship 44 = .ok (.ireturn, 1) := by decide +kernel
theorem dX5_ship_45 : decode cX5_ship 45 = .ok (.aload_n 0, 1) := by decide +kernel
theorem dX5_ship_46 : decode cX5_ship 46 = .ok (.getfield 38, 3) := by decide +kernel
theorem dX5_ship_49 : decode cX5_ship 49 = .ok (.ifCond .eq 6, 3) := by decide +kernel
theorem dX5_ship_52 : decode cX5_ship 52 = .ok (.bipush (-4), 2) := by decide +kernel
theorem dX5_ship_54 : decode cX5_ship 54 = .ok (.ireturn, 1) := by decide +kernel
theorem dX5_ship_55 : decode cX5_ship 55 = .ok (.aload_n 0, 1) := by decide +kernel
theorem dX5_ship_56 : decode cX5_ship 56 = .ok (.getfield 26, 3) := by decide +kernel
theorem dX5_ship_59 : decode cX5_ship 59 = .ok (.invokeinterface 107 1, 5) := by decide +kernel
theorem dX5_ship_64 : decode cX5_ship 64 = .ok (.istore 4, 2) := by decide +kernel
theorem dX5_ship_66 : decode cX5_ship 66 = .ok (.aload_n 0, 1) := by decide +kernel
theorem dX5_ship_67 : decode cX5_ship 67 = .ok (.getfield 26, 3) := by decide +kernel
theorem dX5_ship_70 : decode cX5_ship 70 = .ok (.new 113, 3) := by decide +kernel
theorem dX5_ship_73 : decode cX5_ship 73 = .ok (.dup, 1) := by decide +kernel
theorem dX5_ship_74 : decode cX5_ship 74 = .ok (.iload 4, 2) := by decide +kernel
theorem dX5_ship_76 : decode cX5_ship 76 = .ok (.iload_n 1, 1) := by decide +kernel
theorem dX5_ship_77 : decode cX5_ship 77 = .ok (.iload_n 2, 1) := by decide +kernel
theorem dX5_ship_78 : decode cX5_ship 78 = .ok (.iload_n 3, 1) := by decide +kernel
theorem dX5_ship_79 : decode cX5_ship 79 = .ok (.invokespecial 115, 3) := by decide +kernel
theorem dX5_ship_82 : decode cX5_ship 82 = .ok (.invokeinterface 118 2, 5) := by decide +kernel
theorem dX5_ship_87 : decode cX5_ship 87 = .ok (.pop, 1) := by decide +kernel
theorem dX5_ship_88 : decode cX5_ship 88 = .ok (.iload 4, 2) := by decide +kernel
theorem dX5_ship_90 : decode cX5_ship 90 = .ok (.ireturn, 1) := by decide +kernel
set_option maxRecDepth 20000 in
theorem ggX5_foul_X5_shipOf : GoodIn wsX5_foul wsX5_shipOf := goodIn_r _ [6, 7, 8, 9, 10, 11, 12, 13, 14, 15, 16, 17, 18, 19, 20, 21, 22, 23, 24, 25, 26, 27, 28, 29, 30, 31, 49, 50, 51, 52, 53, 54, 55, 56, 57, 58, 59, 60, 61, 62, 63] (by decide +kernel) (by decide +kernel)
set_option maxRecDepth 20000 in
theorem gX5_foul_X5_shipOf : GoodIn wsX5_foul (wsV RX5 122 RX5 yX5_shipOf wsX5_shipOf) := goodIn_app (goodIn_of _ (by decide +kernel)) ggX5_foul_X5_shipOf
set_option maxRecDepth 20000 in
theorem ggX5_foul_X5_outside : GoodIn wsX5_foul wsX5_outside := goodIn_r _ [34] (by decide +kernel) (by decide +kernel)
set_option maxRecDepth 20000 in
theorem gX5_foul_X5_outside : GoodIn wsX5_foul (va_wsS RX5 60 yX5_outside wsX5_outside) := goodIn_app (goodIn_of _ (by decide +kernel)) ggX5_foul_X5_outside
theorem dX5_foul_0 : decode cX5_foul 0 = .ok (.aload_n 0, 1) := by decide +kernel
theorem dX5_foul_1 : decode cX5_foul 1 = .ok (.iload_n 1, 1) := by decide +kernel
theorem dX5_foul_2 : decode cX5_foul 2 = .ok (.invokevirtual 122, 3) := by decide +kernel
theorem dX5_foul_5 : decode cX5_foul 5 = .ok (.astore_n 3, 1) := by decide +kernel
theorem dX5_foul_6 : decode cX5_foul 6 = .ok (.aload_n 3, 1) := by decide +kernel
theorem dX5_foul_7 : decode cX5_foul 7 = .ok (.ifnull 12, 3) := by decide +kernel
theorem dX5_foul_10 : decode cX5_foul 10 = .ok (.iload_n 2, 1) := by decide +kernel
theorem dX5_foul_11 : decode cX5_foul 11 = .ok (.bipush 9, 2) := by decide +kernel
theorem dX5_foul_13 : decode cX5_foul 13 = .ok (.invokestatic 60, 3) := by decide +kernel
theorem dX5_foul_16 : decode cX5_foul 16 = .ok (.ifCond .eq 5, 3) := by decide +kernel
theorem dX5_foul_19 : decode cX5_foul 19 = .ok (.iconst (-1), 1) := by decide +kernel
theorem dX5_foul_20 : decode cX5_foul 20 = .ok (.ireturn, 1) := by decide +kernel
theorem dX5_foul_21 : decode cX5_foul 21 = .ok (.aload_n 3, 1) := by decide +kernel
theorem dX5_foul_22 : decode cX5_foul 22 = .ok (.getfield 126, 3) := by decide +kernel
theorem dX5_foul_25 : decode cX5_foul 25 = .ok (.istore 4, 2) := by decide +kernel
theorem dX5_foul_27 : decode cX5_foul 27 = .ok (.aload_n 3, 1) := by decide +kernel
theorem dX5_foul_28 : decode cX5_foul 28 = .ok (.iload_n 2, 1) := by decide +kernel
theorem dX5_foul_29 : decode cX5_foul 29 = .ok (.putfield 126, 3) := by decide +kernel
theorem dX5_foul_32 : decode cX5_foul 32 = .ok (.iload 4, 2) := by decide +kernel
theorem dX5_foul_34 : decode cX5_foul 34 = .ok (.ireturn, 1) := by decide +kernel
set_option maxRecDepth 20000 in
theorem ggX5_told_X5_shipOf : GoodIn wsX5_told wsX5_shipOf := goodIn_r _ [12, 13, 14, 15, 16, 17, 18, 19, 20, 21, 22, 23, 24, 25, 26, 27, 28, 29, 30, 31, 32, 33, 34, 35, 36, 37, 52, 53, 54, 55, 56, 57, 58, 59, 60, 61, 62, 63, 64, 65, 66] (by decide +kernel) (by decide +kernel)
set_option maxRecDepth 20000 in
theorem gX5_told_X5_shipOf : GoodIn wsX5_told (wsV RX5 122 RX5 yX5_shipOf wsX5_shipOf) := goodIn_app (goodIn_of _ (by decide +kernel)) ggX5_told_X5_shipOf
theorem dX5_told_0 : decode cX5_told 0 = .ok (.aload_n 0, 1) := by decide +kernel
theorem dX5_told_1 : decode cX5_told 1 = .ok (.iload_n 1, 1) := by decide +kernel
theorem dX5_told_2 : decode cX5_told 2 = .ok (.invokevirtual 122, 3) := by decide +kernel
theorem dX5_told_5 : decode cX5_told 5 = .ok (.astore_n 3, 1) := by decide +kernel
theorem dX5_told_6 : decode cX5_told 6 = .ok (.aload_n 3, 1) := by decide +kernel
theorem dX5_told_7 : decode cX5_told 7 = .ok (.ifnonnull 5, 3) := by decide +kernel
theorem dX5_told_10 : decode cX5_told 10 = .ok (.iconst (-1), 1) := by decide +kernel
theorem dX5_told_11 : decode cX5_told 11 = .ok (.ireturn, 1) := by decide +kernel
theorem dX5_told_12 : decode cX5_told 12 = .ok (.iload_n 2, 1) := by decide +kernel
theorem dX5_told_13 : decode cX5_told 13 = .ok (.tableswitch 78 0 6 #[43, 48, 53, 58, 63, 68, 73], 43) := by decide +kernel
theorem dX5_told_56 : decode cX5_told 56 = .ok (.aload_n 3, 1) := by decide +kernel
theorem dX5_told_57 : decode cX5_told 57 = .ok (.getfield 129, 3) := by decide +kernel
theorem dX5_told_60 : decode cX5_told 60 = .ok (.ireturn, 1) := by decide +kernel
theorem dX5_told_61 : decode cX5_told 61 = .ok (.aload_n 3, 1) := by decide +kernel
theorem dX5_told_62 : decode cX5_told 62 = .ok (.getfield 132, 3) := by decide +kernel
theorem dX5_told_65 : decode cX5_told 65 = .ok (.ireturn, 1) := by decide +kernel
theorem dX5_told_66 : decode cX5_told 66 = .ok (.aload_n 3, 1) := by decide +kernel
theorem dX5_told_67 : decode cX5_told 67 = .ok (.getfield 135, 3) := by decide +kernel
theorem dX5_told_70 : decode cX5_told 70 = .ok (.ireturn, 1) := by decide +kernel
theorem dX5_told_71 : decode cX5_told 71 = .ok (.aload_n 3, 1) := by decide +kernel
theorem dX5_told_72 : decode cX5_told 72 = .ok (.getfield 138, 3) := by decide +kernel
theorem dX5_told_75 : decode cX5_told 75 = .ok (.ireturn, 1) := by decide +kernel
theorem dX5_told_76 : decode cX5_told 76 = .ok (.aload_n 3, 1) := by decide +kernel
theorem dX5_told_77 : decode cX5_told 77 = .ok (.getfield 141, 3) := by decide +kernel
theorem dX5_told_80 : decode cX5_told 80 = .ok (.ireturn, 1) := by decide +kernel
theorem dX5_told_81 : decode cX5_told 81 = .ok (.aload_n 3, 1) := by decide +kernel
theorem dX5_told_82 : decode cX5_told 82 = .ok (.getfield 144, 3) := by decide +kernel
theorem dX5_told_85 : decode cX5_told 85 = .ok (.ireturn, 1) := by decide +kernel
theorem dX5_told_86 : decode cX5_told 86 = .ok (.aload_n 3, 1) := by decide +kernel
theorem dX5_told_87 : decode cX5_told 87 = .ok (.getfield 147, 3) := by decide +kernel
theorem dX5_told_90 : decode cX5_told 90 = .ok (.ireturn, 1) := by decide +kernel
theorem dX5_told_91 : decode cX5_told 91 = .ok (.iconst (-1), 1) := by decide +kernel
theorem dX5_told_92 : decode cX5_told 92 = .ok (.ireturn, 1) := by decide +kernel
set_option maxRecDepth 20000 in
theorem ggX5_mark_X5_shipOf : GoodIn wsX5_mark wsX5_shipOf := goodIn_r _ [8, 9, 10, 11, 12, 13, 14, 15, 16, 17, 18, 19, 20, 21, 22, 23, 24, 25, 26, 27, 28, 29, 30, 31, 32, 33, 87, 88, 89, 90, 91, 92, 93, 94, 95, 96, 97, 98, 99, 100, 101] (by decide +kernel) (by decide +kernel)
set_option maxRecDepth 20000 in
theorem gX5_mark_X5_shipOf : GoodIn wsX5_mark (wsV RX5 122 RX5 yX5_shipOf wsX5_shipOf) := goodIn_app (goodIn_of _ (by decide +kernel)) ggX5_mark_X5_shipOf
set_option maxRecDepth 20000 in
theorem ggX5_mark_X3_isOf : GoodIn wsX5_mark wsX3_isOf := goodIn_r _ [38, 39, 73, 74, 75, 76, 77, 78, 79, 80, 81, 82, 83, 84, 85, 86] (by decide +kernel) (by decide +kernel)
set_option maxRecDepth 20000 in
theorem gX5_mark_X3_isOf : GoodIn wsX5_mark (wsV RX5 150 RX3 yX3_isOf wsX3_isOf) := goodIn_app (goodIn_of _ (by decide +kernel)) ggX5_mark_X3_isOf
set_option maxRecDepth 20000 in
theorem ggX5_mark_X5_found : GoodIn wsX5_mark wsX5_found := goodIn_r _ [43, 44, 45, 87, 88, 89, 90, 91, 92, 93, 94, 95, 96, 97, 98] (by decide +kernel) (by decide +kernel)
set_option maxRecDepth 20000 in
theorem gX5_mark_X5_found : GoodIn wsX5_mark (wsV RX5 79 RX5 yX5_found wsX5_found) := goodIn_app (goodIn_of _ (by decide +kernel)) ggX5_mark_X5_found
set_option maxRecDepth 20000 in
theorem ggX5_mark_Jx4a65c_size_8abf5 : GoodIn wsX5_mark wsJx4a65c_size_8abf5 := goodIn_r _ [15, 16, 99, 100, 101] (by decide +kernel) (by decide +kernel)
set_option maxRecDepth 20000 in
theorem gX5_mark_Jx4a65c_size_8abf5_f107Jx4a65c : GoodIn wsX5_mark (va_wsF RX5 107 RJx4a65c ⟨"java/util/List", "size", "()I"⟩ yJx4a65c_size_8abf5 wsJx4a65c_size_8abf5) := goodIn_app (goodIn_of _ (by decide +kernel)) ggX5_mark_Jx4a65c_size_8abf5
set_option maxRecDepth 20000 in
theorem ggX5_mark_X3_speedIn : GoodIn wsX5_mark wsX3_speedIn := goodIn_r _ [49, 39, 50, 51, 52, 53, 54, 55, 7, 56, 57, 58, 59, 60, 61, 62, 63, 64, 65, 66, 67, 37, 68, 69, 70, 71, 72, 73, 74, 75, 76, 77, 78, 79, 80, 81, 82, 83, 84, 85, 86] (by decide +kernel) (by decide +kernel)
set_option maxRecDepth 20000 in
theorem gX5_mark_X3_speedIn : GoodIn wsX5_mark (wsV RX5 156 RX3 yX3_speedIn wsX3_speedIn) := goodIn_app (goodIn_of _ (by decide +kernel)) ggX5_mark_X3_speedIn
theorem dX5_mark_0 : decode cX5_mark 0 = .ok (.aload_n 0, 1) := by decide +kernel
theorem dX5_mark_1 : decode cX5_mark 1 = .ok (.iload_n 1, 1) := by decide +kernel
theorem dX5_mark_2 : decode cX5_mark 2 = .ok (.invokevirtual 122, 3) := by decide +kernel
theorem dX5_mark_5 : decode cX5_mark 5 = .ok (.astore_n 3, 1) := by decide +kernel
theorem dX5_mark_6 : decode cX5_mark 6 = .ok (.aload_n 3, 1) := by decide +kernel
theorem dX5_mark_7 : decode cX5_mark 7 = .ok (.ifnull 13, 3) := by decide +kernel
theorem dX5_mark_10 : decode cX5_mark 10 = .ok (.iload_n 2, 1) := by decide +kernel
theorem dX5_mark_11 : decode cX5_mark 11 = .ok (.iconst 1, 1) := by decide +kernel
theorem dX5_mark_12 : decode cX5_mark 12 = .ok (.if_icmp .lt 8, 3) := by decide +kernel
theorem dX5_mark_15 : decode cX5_mark 15 = .ok (.iload_n 2, 1) := by decide +kernel
theorem dX5_mark_16 : decode cX5_mark 16 = .ok (.iconst 3, 1) := by decide +kernel
theorem dX5_mark_17 : decode cX5_mark 17 = .ok (.if_icmp .le 5, 3) := by decide +kernel
theorem dX5_mark_20 : decode cX5_mark 20 = .ok (.iconst (-1), 1) := by decide +kernel
theorem dX5_mark_21 : decode cX5_mark 21 = .ok (.ireturn, 1) := by decide +kernel
theorem dX5_mark_22 : decode cX5_mark 22 = .ok (.aload_n 3, 1) := by decide +kernel
theorem dX5_mark_23 : decode cX5_mark 23 = .ok (.iload_n 2, 1) := by decide +kernel
theorem dX5_mark_24 : decode cX5_mark 24 = .ok (.invokevirtual 150, 3) := by decide +kernel
theorem dX5_mark_27 : decode cX5_mark 27 = .ok (.ifCond .ne 9, 3) := by decide +kernel
theorem dX5_mark_30 : decode cX5_mark 30 = .ok (.aload_n 0, 1) := by decide +kernel
theorem dX5_mark_31 : decode cX5_mark 31 = .ok (.iconst 3, 1) := by decide +kernel
theorem dX5_mark_32 : decode cX5_mark 32 = .ok (.invokevirtual 79, 3) := by decide +kernel
theorem dX5_mark_35 : decode cX5_mark 35 = .ok (.ireturn, 1) := by decide +kernel
theorem dX5_mark_36 : decode cX5_mark 36 = .ok (.iload_n 2, 1) := by decide +kernel
theorem dX5_mark_37 : decode cX5_mark 37 = .ok (.lookupswitch 47 #[(1, 27), (2, 37)], 27) := by decide +kernel
theorem dX5_mark_64 : decode cX5_mark 64 = .ok (.aload_n 3, 1) := by decide +kernel
theorem dX5_mark_65 : decode cX5_mark 65 = .ok (.getfield 153, 3) := by decide +kernel
theorem dX5_mark_68 : decode cX5_mark 68 = .ok (.invokeinterface 107 1, 5) := by decide +kernel
theorem dX5_mark_73 : decode cX5_mark 73 = .ok (.ireturn, 1) := by decide +kernel
theorem dX5_mark_74 : decode cX5_mark 74 = .ok (.aload_n 3, 1) := by decide +kernel
theorem dX5_mark_75 : decode cX5_mark 75 = .ok (.aload_n 3, 1) := by decide +kernel
theorem dX5_mark_76 : decode cX5_mark 76 = .ok (.getfield 138, 3) := by decide +kernel
theorem dX5_mark_79 : decode cX5_mark 79 = .ok (.iconst 0, 1) := by decide +kernel
theorem dX5_mark_80 : decode cX5_mark 80 = .ok (.invokevirtual 156, 3) := by decide +kernel
theorem dX5_mark_83 : decode cX5_mark 83 = .ok (.ireturn, 1) := by decide +kernel
theorem dX5_mark_84 : decode cX5_mark 84 = .ok (.aload_n 3, 1) := by decide +kernel
theorem dX5_mark_85 : decode cX5_mark 85 = .ok (.getfield 159, 3) := by decide +kernel
theorem dX5_mark_88 : decode cX5_mark 88 = .ok (.ireturn, 1) := by decide +kernel
set_option maxRecDepth 20000 in
theorem ggX5_speed_X5_shipOf : GoodIn wsX5_speed wsX5_shipOf := goodIn_r _ [5, 6, 7, 8, 9, 10, 11, 12, 13, 14, 15, 16, 17, 18, 19, 20, 21, 22, 23, 24, 25, 26, 27, 28, 29, 30, 63, 64, 65, 66, 67, 68, 69, 70, 71, 72, 73, 74, 75, 76, 77] (by decide +kernel) (by decide +kernel)
set_option maxRecDepth 20000 in
theorem gX5_speed_X5_shipOf : GoodIn wsX5_speed (wsV RX5 122 RX5 yX5_shipOf wsX5_shipOf) := goodIn_app (goodIn_of _ (by decide +kernel)) ggX5_speed_X5_shipOf
set_option maxRecDepth 20000 in
theorem ggX5_speed_X5_outside : GoodIn wsX5_speed wsX5_outside := goodIn_r _ [33] (by decide +kernel) (by decide +kernel)
set_option maxRecDepth 20000 in
theorem gX5_speed_X5_outside : GoodIn wsX5_speed (va_wsS RX5 60 yX5_outside wsX5_outside) := goodIn_app (goodIn_of _ (by decide +kernel)) ggX5_speed_X5_outside
set_option maxRecDepth 20000 in
theorem ggX5_speed_X3_speedIn : GoodIn wsX5_speed wsX3_speedIn := goodIn_r _ [38, 39, 40, 41, 42, 43, 44, 45, 4, 46, 47, 48, 49, 50, 51, 52, 53, 54, 55, 56, 57, 37, 58, 59, 60, 61, 62, 78, 79, 80, 81, 82, 83, 84, 85, 86, 87, 88, 89, 90, 91] (by decide +kernel) (by decide +kernel)
set_option maxRecDepth 20000 in
theorem gX5_speed_X3_speedIn : GoodIn wsX5_speed (wsV RX5 156 RX3 yX3_speedIn wsX3_speedIn) := goodIn_app (goodIn_of _ (by decide +kernel)) ggX5_speed_X3_speedIn
theorem dX5_speed_0 : decode cX5_speed 0 = .ok (.aload_n 0, 1) := by decide +kernel
theorem dX5_speed_1 : decode cX5_speed 1 = .ok (.iload_n 1, 1) := by decide +kernel
theorem dX5_speed_2 : decode cX5_speed 2 = .ok (.invokevirtual 122, 3) := by decide +kernel
theorem dX5_speed_5 : decode cX5_speed 5 = .ok (.astore 5, 2) := by decide +kernel
theorem dX5_speed_7 : decode cX5_speed 7 = .ok (.aload 5, 2) := by decide +kernel
theorem dX5_speed_9 : decode cX5_speed 9 = .ok (.ifnull 31, 3) := by decide +kernel
theorem dX5_speed_12 : decode cX5_speed 12 = .ok (.iload_n 2, 1) := by decide +kernel
theorem dX5_speed_13 : decode cX5_speed 13 = .ok (.bipush 7, 2) := by decide +kernel
theorem dX5_speed_15 : decode cX5_speed 15 = .ok (.invokestatic 60, 3) := by decide +kernel
theorem dX5_speed_18 : decode cX5_speed 18 = .ok (.ifCond .ne 22, 3) := by decide +kernel
theorem dX5_speed_21 : decode cX5_speed 21 = .ok (.iload_n 3, 1) := by decide +kernel
theorem dX5_speed_22 : decode cX5_speed 22 = .ok (.bipush 7, 2) := by decide +kernel
theorem dX5_speed_24 : decode cX5_speed 24 = .ok (.invokestatic 60, 3) := by decide +kernel
theorem dX5_speed_27 : decode cX5_speed 27 = .ok (.ifCond .ne 13, 3) := by decide +kernel
theorem dX5_speed_30 : decode cX5_speed 30 = .ok (.iload 4, 2) := by decide +kernel
theorem dX5_speed_32 : decode cX5_speed 32 = .ok (.bipush 9, 2) := by decide +kernel
theorem dX5_speed_34 : decode cX5_speed 34 = .ok (.invokestatic 60, 3) := by decide +kernel
theorem dX5_speed_37 : decode cX5_speed 37 = .ok (.ifCond .eq 5, 3) := by decide +kernel
theorem dX5_speed_40 : decode cX5_speed 40 = .ok (.iconst (-1), 1) := by decide +kernel
theorem dX5_speed_41 : decode cX5_speed 41 = .ok (.ireturn, 1) := by decide +kernel
theorem dX5_speed_42 : decode cX5_speed 42 = .ok (.aload 5, 2) := by decide +kernel
theorem dX5_speed_44 : decode cX5_speed 44 = .ok (.iload_n 2, 1) := by decide +kernel
theorem dX5_speed_45 : decode cX5_speed 45 = .ok (.bipush 10, 2) := by decide +kernel
theorem dX5_speed_47 : decode cX5_speed 47 = .ok (.iload_n 3, 1) := by decide +kernel
theorem dX5_speed_48 : decode cX5_speed 48 = .ok (.imul, 1) := by decide +kernel
theorem dX5_speed_49 : decode cX5_speed 49 = .ok (.iload 4, 2) := by decide +kernel
theorem dX5_speed_51 : decode cX5_speed 51 = .ok (.iadd, 1) := by decide +kernel
theorem dX5_speed_52 : decode cX5_speed 52 = .ok (.invokevirtual 156, 3) := by decide +kernel
theorem dX5_speed_55 : decode cX5_speed 55 = .ok (.ireturn, 1) := by decide +kernel
set_option maxRecDepth 20000 in
theorem ggX5_order_X5_shipOf : GoodIn wsX5_order wsX5_shipOf := goodIn_r _ [9, 10, 11, 12, 13, 14, 15, 16, 17, 18, 19, 20, 21, 22, 23, 24, 25, 26, 27, 28, 29, 30, 31, 32, 33, 34, 126, 127, 128, 129, 130, 131, 132, 133, 134, 135, 136, 137, 138, 139, 140] (by decide +kernel) (by decide +kernel)
set_option maxRecDepth 20000 in
theorem gX5_order_X5_shipOf : GoodIn wsX5_order (wsV RX5 122 RX5 yX5_shipOf wsX5_shipOf) := goodIn_app (goodIn_of _ (by decide +kernel)) ggX5_order_X5_shipOf
set_option maxRecDepth 20000 in
theorem ggX5_order_X5_isNoSpan : GoodIn wsX5_order wsX5_isNoSpan := goodIn_r _ [37, 38, 39, 8, 40] (by decide +kernel) (by decide +kernel)
set_option maxRecDepth 20000 in
theorem gX5_order_X5_isNoSpan : GoodIn wsX5_order (va_wsS RX5 162 yX5_isNoSpan wsX5_isNoSpan) := goodIn_app (goodIn_of _ (by decide +kernel)) ggX5_order_X5_isNoSpan
set_option maxRecDepth 20000 in
theorem ggX5_order_X5_outside : GoodIn wsX5_order wsX5_outside := goodIn_r _ [40] (by decide +kernel) (by decide +kernel)
set_option maxRecDepth 20000 in
theorem gX5_order_X5_outside : GoodIn wsX5_order (va_wsS RX5 60 yX5_outside wsX5_outside) := goodIn_app (goodIn_of _ (by decide +kernel)) ggX5_order_X5_outside
set_option maxRecDepth 20000 in
theorem ggX5_order_Jx4a65c_size_8abf5 : GoodIn wsX5_order wsJx4a65c_size_8abf5 := goodIn_r _ [16, 17, 138, 139, 140] (by decide +kernel) (by decide +kernel)
set_option maxRecDepth 20000 in
theorem gX5_order_Jx4a65c_size_8abf5_f107Jx4a65c : GoodIn wsX5_order (va_wsF RX5 107 RJx4a65c ⟨"java/util/List", "size", "()I"⟩ yJx4a65c_size_8abf5 wsJx4a65c_size_8abf5) := goodIn_app (goodIn_of _ (by decide +kernel)) ggX5_order_Jx4a65c_size_8abf5
set_option maxRecDepth 20000 in
theorem ggX5_order_X0_init : GoodIn wsX5_order wsX0_init := goodIn_r _ [43, 44, 45, 46, 47, 48, 49, 50, 51, 52, 120, 121, 122, 123, 124, 125] (by decide +kernel) (by decide +kernel)
set_option maxRecDepth 20000 in
theorem gX5_order_X0_init : GoodIn wsX5_order (wsX0_init) := ggX5_order_X0_init
set_option maxRecDepth 20000 in
theorem ggX5_order_Jx4a65c_add_9ea2d : GoodIn wsX5_order wsJx4a65c_add_9ea2d := goodIn_r _ [56, 57, 58, 34, 17, 59, 60, 61, 15, 62, 63, 64, 65, 66, 67, 68, 69, 70, 71, 72, 73, 74, 75, 76, 77, 78, 79, 80, 81, 82, 83, 84, 85, 86, 87, 88, 89, 90, 91, 92, 93, 94, 95, 96, 97, 98, 99, 100, 101, 102, 103, 104, 105, 138, 139, 140] (by decide +kernel) (by decide +kernel)
set_option maxRecDepth 20000 in
theorem gX5_order_Jx4a65c_add_9ea2d_f118Jx4a65c : GoodIn wsX5_order (va_wsF RX5 118 RJx4a65c ⟨"java/util/List", "add", "(Ljava/lang/Object;)Z"⟩ yJx4a65c_add_9ea2d wsJx4a65c_add_9ea2d) := goodIn_app (goodIn_of _ (by decide +kernel)) ggX5_order_Jx4a65c_add_9ea2d
theorem dX5_order_0 : decode cX5_order 0 = .ok (.aload_n 0, 1) := by decide +kernel
theorem dX5_order_1 : decode cX5_order 1 = .ok (.iload_n 1, 1) := by decide +kernel
theorem dX5_order_2 : decode cX5_order 2 = .ok (.invokevirtual 122, 3) := by decide +kernel
theorem dX5_order_5 : decode cX5_order 5 = .ok (.astore 8, 2) := by decide +kernel
theorem dX5_order_7 : decode cX5_order 7 = .ok (.aload 8, 2) := by decide +kernel
theorem dX5_order_9 : decode cX5_order 9 = .ok (.ifnull 25, 3) := by decide +kernel
theorem dX5_order_12 : decode cX5_order 12 = .ok (.iload_n 2, 1) := by decide +kernel
theorem dX5_order_13 : decode cX5_order 13 = .ok (.iload_n 3, 1) := by decide +kernel
theorem dX5_order_14 : decode cX5_order 14 = .ok (.bipush 15, 2) := by decide +kernel
theorem dX5_order_16 : decode cX5_order 16 = .ok (.invokestatic 162, 3) := by decide +kernel
theorem dX5_order_19 : decode cX5_order 19 = .ok (.ifCond .ne 15, 3) := by decide +kernel
theorem dX5_order_22 : decode cX5_order 22 = .ok (.iload 4, 2) := by decide +kernel
theorem dX5_order_24 : decode cX5_order 24 = .ok (.iload 5, 2) := by decide +kernel
theorem dX5_order_26 : decode cX5_order 26 = .ok (.bipush 9, 2) := by decide +kernel
theorem dX5_order_28 : decode cX5_order 28 = .ok (.invokestatic 162, 3) := by decide +kernel
theorem dX5_order_31 : decode cX5_order 31 = .ok (.ifCond .eq 5, 3) := by decide +kernel
theorem dX5_order_34 : decode cX5_order 34 = .ok (.iconst (-1), 1) := by decide +kernel
theorem dX5_order_35 : decode cX5_order 35 = .ok (.ireturn, 1) := by decide +kernel
theorem dX5_order_36 : decode cX5_order 36 = .ok (.iload 6, 2) := by decide +kernel
theorem dX5_order_38 : decode cX5_order 38 = .ok (.bipush 9, 2) := by decide +kernel
theorem dX5_order_40 : decode cX5_order 40 = .ok (.invokestatic 60, 3) := by decide +kernel
theorem dX5_order_43 : decode cX5_order 43 = .ok (.ifCond .ne 13, 3) := by decide +kernel
theorem dX5_order_46 : decode cX5_order 46 = .ok (.iload 7, 2) := by decide +kernel
theorem dX5_order_48 : decode cX5_order 48 = .ok (.bipush 7, 2) := by decide +kernel
theorem dX5_order_50 : decode cX5_order 50 = .ok (.invokestatic 60, 3) := by decide +kernel
theorem dX5_order_53 : decode cX5_order 53 = .ok (.ifCond .eq 5, 3) := by decide +kernel
theorem dX5_order_56 : decode cX5_order 56 = .ok (.iconst (-1), 1) := by decide +kernel
theorem dX5_order_57 : decode cX5_order 57 = .ok (.ireturn, 1) := by decide +kernel
theorem dX5_order_58 : decode cX5_order 58 = .ok (.aload 8, 2) := by decide +kernel
theorem dX5_order_60 : decode cX5_order 60 = .ok (.getfield 153, 3) := by decide +kernel
theorem dX5_order_63 : decode cX5_order 63 = .ok (.invokeinterface 107 1, 5) := by decide +kernel
theorem dX5_order_68 : decode cX5_order 68 = .ok (.bipush 20, 2) := by decide +kernel
theorem dX5_order_70 : decode cX5_order 70 = .ok (.if_icmp .lt 6, 3) := by decide +kernel
theorem dX5_order_73 : decode cX5_order 73 = .ok (.bipush (-2), 2) := by decide +kernel
theorem dX5_order_75 : decode cX5_order 75 = .ok (.ireturn, 1) := by decide +kernel
theorem dX5_order_76 : decode cX5_order 76 = .ok (.aload 8, 2) := by decide +kernel
theorem dX5_order_78 : decode cX5_order 78 = .ok (.getfield 153, 3) := by decide +kernel
theorem dX5_order_81 : decode cX5_order 81 = .ok (.new 166, 3) := by decide +kernel
theorem dX5_order_84 : decode cX5_order 84 = .ok (.dup, 1) := by decide +kernel
theorem dX5_order_85 : decode cX5_order 85 = .ok (.iload_n 2, 1) := by decide +kernel
theorem dX5_order_86 : decode cX5_order 86 = .ok (.iload_n 3, 1) := by decide +kernel
theorem dX5_order_87 : decode cX5_order 87 = .ok (.iload 4, 2) := by decide +kernel
theorem dX5_order_89 : decode cX5_order 89 = .ok (.iload 5, 2) := by decide +kernel
theorem dX5_order_91 : decode cX5_order 91 = .ok (.iload 6, 2) := by decide +kernel
theorem dX5_order_93 : decode cX5_order 93 = .ok (.iload 7, 2) := by decide +kernel
theorem dX5_order_95 : decode cX5_order 95 = .ok (.invokespecial 168, 3) := by decide +kernel
theorem dX5_order_98 : decode cX5_order 98 = .ok (.invokeinterface 118 2, 5) := by decide +kernel
theorem dX5_order_103 : decode cX5_order 103 = .ok (.pop, 1) := by decide +kernel
theorem dX5_order_104 : decode cX5_order 104 = .ok (.aload 8, 2) := by decide +kernel
theorem dX5_order_106 : decode cX5_order 106 = .ok (.getfield 153, 3) := by decide +kernel
theorem dX5_order_109 : decode cX5_order 109 = .ok (.invokeinterface 107 1, 5) := by decide +kernel
theorem dX5_order_114 : decode cX5_order 114 = .ok (.ireturn, 1) := by decide +kernel
set_option maxRecDepth 20000 in
theorem ggX5_home_X5_isNoWater : GoodIn wsX5_home wsX5_isNoWater := goodIn_r _ [8, 9, 10, 11, 7, 12, 13, 14, 15, 16, 17, 18, 19, 20, 21, 22, 23, 24, 25, 26, 27, 28, 29, 30, 31, 32, 33] (by decide +kernel) (by decide +kernel)
set_option maxRecDepth 20000 in
theorem gX5_home_X5_isNoWater : GoodIn wsX5_home (wsV RX5 104 RX5 yX5_isNoWater wsX5_isNoWater) := goodIn_app (goodIn_of _ (by decide +kernel)) ggX5_home_X5_isNoWater
set_option maxRecDepth 20000 in
theorem ggX5_home_X5_outside : GoodIn wsX5_home wsX5_outside := goodIn_r _ [12] (by decide +kernel) (by decide +kernel)
set_option maxRecDepth 20000 in
theorem gX5_home_X5_outside : GoodIn wsX5_home (va_wsS RX5 60 yX5_outside wsX5_outside) := goodIn_app (goodIn_of _ (by decide +kernel)) ggX5_home_X5_outside
theorem dX5_home_0 : decode cX5_home 0 = .ok (.aload_n 0, 1) := by decide +kernel
theorem dX5_home_1 : decode cX5_home 1 = .ok (.iload_n 1, 1) := by decide +kernel
theorem dX5_home_2 : decode cX5_home 2 = .ok (.invokevirtual 104, 3) := by decide +kernel
theorem dX5_home_5 : decode cX5_home 5 = .ok (.ifCond .ne 12, 3) := by decide +kernel
theorem dX5_home_8 : decode cX5_home 8 = .ok (.iload_n 2, 1) := by decide +kernel
theorem dX5_home_9 : decode cX5_home 9 = .ok (.bipush 23, 2) := by decide +kernel
theorem dX5_home_11 : decode cX5_home 11 = .ok (.invokestatic 60, 3) := by decide +kernel
theorem dX5_home_14 : decode cX5_home 14 = .ok (.ifCond .eq 5, 3) := by decide +kernel
theorem dX5_home_17 : decode cX5_home 17 = .ok (.iconst (-1), 1) := by decide +kernel
theorem dX5_home_18 : decode cX5_home 18 = .ok (.ireturn, 1) := by decide +kernel
theorem dX5_home_19 : decode cX5_home 19 = .ok (.aload_n 0, 1) := by decide +kernel
theorem dX5_home_20 : decode cX5_home 20 = .ok (.getfield 38, 3) := by decide +kernel
theorem dX5_home_23 : decode cX5_home 23 = .ok (.ifCond .eq 6, 3) := by decide +kernel
theorem dX5_home_26 : decode cX5_home 26 = .ok (.bipush (-4), 2) := by decide +kernel
theorem dX5_home_28 : decode cX5_home 28 = .ok (.ireturn, 1) := by decide +kernel
theorem dX5_home_29 : decode cX5_home 29 = .ok (.aload_n 0, 1) := by decide +kernel
theorem dX5_home_30 : decode cX5_home 30 = .ok (.iload_n 1, 1) := by decide +kernel
theorem dX5_home_31 : decode cX5_home 31 = .ok (.putfield 41, 3) := by decide +kernel
theorem dX5_home_34 : decode cX5_home 34 = .ok (.aload_n 0, 1) := by decide +kernel
theorem dX5_home_35 : decode cX5_home 35 = .ok (.iload_n 2, 1) := by decide +kernel
theorem dX5_home_36 : decode cX5_home 36 = .ok (.putfield 44, 3) := by decide +kernel
theorem dX5_home_39 : decode cX5_home 39 = .ok (.iconst 1, 1) := by decide +kernel
theorem dX5_home_40 : decode cX5_home 40 = .ok (.ireturn, 1) := by decide +kernel
set_option maxRecDepth 20000 in
theorem ggX5_run_X5_outside : GoodIn wsX5_run wsX5_outside := goodIn_r _ [8] (by decide +kernel) (by decide +kernel)
set_option maxRecDepth 20000 in
theorem gX5_run_X5_outside : GoodIn wsX5_run (va_wsS RX5 60 yX5_outside wsX5_outside) := goodIn_app (goodIn_of _ (by decide +kernel)) ggX5_run_X5_outside
set_option maxRecDepth 20000 in
theorem ggX5_run_X5_shipsHome : GoodIn wsX5_run wsX5_shipsHome := goodIn_r _ [12, 3, 4, 13, 14, 15, 16, 17, 18, 19, 20, 21, 22, 23, 24, 25, 26, 27, 28, 29, 30, 31, 32, 33, 34, 35, 36, 37, 38, 39, 40, 41, 142, 143, 144, 145, 146, 147, 148, 149, 150, 151, 152, 153, 154, 155, 156, 157, 158, 159, 160, 161, 162, 163, 164, 165, 166, 167, 168, 169, 170] (by decide +kernel) (by decide +kernel)
set_option maxRecDepth 20000 in
theorem gX5_run_X5_shipsHome : GoodIn wsX5_run (wsV RX5 172 RX5 yX5_shipsHome wsX5_shipsHome) := goodIn_app (goodIn_of _ (by decide +kernel)) ggX5_run_X5_shipsHome
set_option maxRecDepth 20000 in
theorem ggX5_run_Jx4a65c_size_8abf5 : GoodIn wsX5_run wsJx4a65c_size_8abf5 := goodIn_r _ [17, 18, 154, 155, 156] (by decide +kernel) (by decide +kernel)
set_option maxRecDepth 20000 in
theorem gX5_run_Jx4a65c_size_8abf5_f107Jx4a65c : GoodIn wsX5_run (va_wsF RX5 107 RJx4a65c ⟨"java/util/List", "size", "()I"⟩ yJx4a65c_size_8abf5 wsJx4a65c_size_8abf5) := goodIn_app (goodIn_of _ (by decide +kernel)) ggX5_run_Jx4a65c_size_8abf5
set_option maxRecDepth 20000 in
theorem ggX5_run_Jx4a65c_get_915e3 : GoodIn wsX5_run wsJx4a65c_get_915e3 := goodIn_r _ [22, 18, 23, 24, 25, 26, 27, 28, 29, 30, 31, 32, 33, 16, 34, 35, 154, 155, 156] (by decide +kernel) (by decide +kernel)
set_option maxRecDepth 20000 in
theorem gX5_run_Jx4a65c_get_915e3_f175Jx4a65c : GoodIn wsX5_run (va_wsF RX5 175 RJx4a65c ⟨"java/util/List", "get", "(I)Ljava/lang/Object;"⟩ yJx4a65c_get_915e3 wsJx4a65c_get_915e3) := goodIn_app (goodIn_of _ (by decide +kernel)) ggX5_run_Jx4a65c_get_915e3
set_option maxRecDepth 20000 in
theorem ggX5_run_X5_sail : GoodIn wsX5_run wsX5_sail := goodIn_r _ [45, 2, 46, 47, 48, 49, 36, 37, 38, 39, 40, 41, 50, 51, 7, 52, 53, 54, 55, 56, 57, 58, 59, 60, 61, 62, 63, 6, 8, 64, 65, 66, 67, 68, 69, 70, 71, 72, 73, 14, 15, 16, 17, 18, 74, 20, 21, 22, 23, 24, 25, 26, 27, 28, 29, 30, 31, 32, 33, 34, 35, 75, 76, 77, 78, 79, 80, 81, 82, 83, 84, 85, 86, 87, 88, 89, 90, 91, 92, 93, 94, 95, 96, 97, 98, 99, 100, 101, 102, 103, 104, 105, 106, 107, 108, 109, 110, 111, 112, 113, 114, 115, 116, 117, 118, 119, 120, 121, 122, 123, 124, 125, 126, 127, 128, 129, 130, 131, 132, 133, 134, 135, 136, 137, 138, 139, 140, 141, 142, 143, 144, 145, 146, 147, 148, 149, 150, 151, 152, 153, 157, 158, 159, 160, 161, 162, 163, 164, 165, 166, 167, 168, 169, 170, 171, 172, 173, 174, 175, 176, 177, 178, 179, 154, 155, 156] (by decide +kernel) (by decide +kernel)
set_option maxRecDepth 20000 in
theorem gX5_run_X5_sail : GoodIn wsX5_run (wsV RX5 179 RX5 yX5_sail wsX5_sail) := goodIn_app (goodIn_of _ (by decide +kernel)) ggX5_run_X5_sail
theorem dX5_run_0 : decode cX5_run 0 = .ok (.iload_n 1, 1) := by decide +kernel
theorem dX5_run_1 : decode cX5_run 1 = .ok (.sipush 2000, 3) := by decide +kernel
theorem dX5_run_4 : decode cX5_run 4 = .ok (.invokestatic 60, 3) := by decide +kernel
theorem dX5_run_7 : decode cX5_run 7 = .ok (.ifCond .eq 5, 3) := by decide +kernel
theorem dX5_run_10 : decode cX5_run 10 = .ok (.iconst (-1), 1) := by decide +kernel
theorem dX5_run_11 : decode cX5_run 11 = .ok (.ireturn, 1) := by decide +kernel
theorem dX5_run_12 : decode cX5_run 12 = .ok (.iload_n 1, 1) := by decide +kernel
theorem dX5_run_13 : decode cX5_run 13 = .ok (.ldc 171, 2) := by decide +kernel
theorem dX5_run_15 : decode cX5_run 15 = .ok (.aload_n 0, 1) := by decide +kernel
theorem dX5_run_16 : decode cX5_run 16 = .ok (.getfield 38, 3) := by decide +kernel
theorem dX5_run_19 : decode cX5_run 19 = .ok (.isub, 1) := by decide +kernel
theorem dX5_run_20 : decode cX5_run 20 = .ok (.if_icmp .le 6, 3) := by decide +kernel
theorem dX5_run_23 : decode cX5_run 23 = .ok (.bipush (-2), 2) := by decide +kernel
theorem dX5_run_25 : decode cX5_run 25 = .ok (.ireturn, 1) := by decide +kernel
theorem dX5_run_26 : decode cX5_run 26 = .ok (.aload_n 0, 1) := by decide +kernel
theorem dX5_run_27 : decode cX5_run 27 = .ok (.invokevirtual 172, 3) := by decide +kernel
theorem dX5_run_30 : decode cX5_run 30 = .ok (.istore_n 2, 1) := by decide +kernel
theorem dX5_run_31 : decode cX5_run 31 = .ok (.iconst 0, 1) := by decide +kernel
theorem dX5_run_32 : decode cX5_run 32 = .ok (.istore_n 3, 1) := by decide +kernel
theorem dX5_run_33 : decode cX5_run 33 = .ok (.iload_n 3, 1) := by decide +kernel
theorem dX5_run_34 : decode cX5_run 34 = .ok (.aload_n 0, 1) := by decide +kernel
theorem dX5_run_35 : decode cX5_run 35 = .ok (.getfield 26, 3) := by decide +kernel
theorem dX5_run_38 : decode cX5_run 38 = .ok (.invokeinterface 107 1, 5) := by decide +kernel
theorem dX5_run_43 : decode cX5_run 43 = .ok (.if_icmp .ge 32, 3) := by decide +kernel
theorem dX5_run_46 : decode cX5_run 46 = .ok (.aload_n 0, 1) := by decide +kernel
theorem dX5_run_47 : decode cX5_run 47 = .ok (.aload_n 0, 1) := by decide +kernel
theorem dX5_run_48 : decode cX5_run 48 = .ok (.getfield 26, 3) := by decide +kernel
theorem dX5_run_51 : decode cX5_run 51 = .ok (.iload_n 3, 1) := by decide +kernel
theorem dX5_run_52 : decode cX5_run 52 = .ok (.invokeinterface 175 2, 5) := by decide +kernel
theorem dX5_run_57 : decode cX5_run 57 = .ok (.checkcast 113, 3) := by decide +kernel
theorem dX5_run_60 : decode cX5_run 60 = .ok (.aload_n 0, 1) := by decide +kernel
theorem dX5_run_61 : decode cX5_run 61 = .ok (.getfield 38, 3) := by decide +kernel
theorem dX5_run_64 : decode cX5_run 64 = .ok (.iload_n 1, 1) := by decide +kernel
theorem dX5_run_65 : decode cX5_run 65 = .ok (.iadd, 1) := by decide +kernel
theorem dX5_run_66 : decode cX5_run 66 = .ok (.invokevirtual 179, 3) := by decide +kernel
theorem dX5_run_69 : decode cX5_run 69 = .ok (.iinc 3 1, 3) := by decide +kernel
theorem dX5_run_72 : decode cX5_run 72 = .ok (.goto (-39), 3) := by decide +kernel
theorem dX5_run_75 : decode cX5_run 75 = .ok (.aload_n 0, 1) := by decide +kernel
theorem dX5_run_76 : decode cX5_run 76 = .ok (.dup, 1) := by decide +kernel
theorem dX5_run_77 : decode cX5_run 77 = .ok (.getfield 38, 3) := by decide +kernel
theorem dX5_run_80 : decode cX5_run 80 = .ok (.iload_n 1, 1) := by decide +kernel
theorem dX5_run_81 : decode cX5_run 81 = .ok (.iadd, 1) := by decide +kernel
theorem dX5_run_82 : decode cX5_run 82 = .ok (.putfield 38, 3) := by decide +kernel
theorem dX5_run_85 : decode cX5_run 85 = .ok (.aload_n 0, 1) := by decide +kernel
theorem dX5_run_86 : decode cX5_run 86 = .ok (.invokevirtual 172, 3) := by decide +kernel
theorem dX5_run_89 : decode cX5_run 89 = .ok (.iload_n 2, 1) := by decide +kernel
theorem dX5_run_90 : decode cX5_run 90 = .ok (.isub, 1) := by decide +kernel
theorem dX5_run_91 : decode cX5_run 91 = .ok (.ireturn, 1) := by decide +kernel
set_option maxRecDepth 20000 in
theorem ggX5_first_X5_theFirst : GoodIn wsX5_first wsX5_theFirst := goodIn_r _ [6, 7, 8, 9, 10, 11, 12, 13, 14, 15, 16, 17, 18, 19, 20, 21, 22, 23, 24, 25, 26, 27, 28, 29, 30, 31, 32, 33, 34, 35, 36, 37, 38, 39, 40, 41, 42, 43, 58, 59, 60, 61, 62, 63, 64, 65, 66, 67, 68, 69, 70, 71, 72, 44, 45, 46, 47, 48, 49, 50, 51, 52, 53, 54, 55, 56, 57] (by decide +kernel) (by decide +kernel)
set_option maxRecDepth 20000 in
theorem gX5_first_X5_theFirst : GoodIn wsX5_first (wsV RX5 183 RX5 yX5_theFirst wsX5_theFirst) := goodIn_app (goodIn_of _ (by decide +kernel)) ggX5_first_X5_theFirst
theorem dX5_first_0 : decode cX5_first 0 = .ok (.aload_n 0, 1) := by decide +kernel
theorem dX5_first_1 : decode cX5_first 1 = .ok (.invokevirtual 183, 3) := by decide +kernel
theorem dX5_first_4 : decode cX5_first 4 = .ok (.astore_n 1, 1) := by decide +kernel
theorem dX5_first_5 : decode cX5_first 5 = .ok (.aload_n 1, 1) := by decide +kernel
theorem dX5_first_6 : decode cX5_first 6 = .ok (.ifnonnull 8, 3) := by decide +kernel
theorem dX5_first_9 : decode cX5_first 9 = .ok (.bipush (-9), 2) := by decide +kernel
theorem dX5_first_11 : decode cX5_first 11 = .ok (.goto 7, 3) := by decide +kernel
theorem dX5_first_14 : decode cX5_first 14 = .ok (.aload_n 1, 1) := by decide +kernel
theorem dX5_first_15 : decode cX5_first 15 = .ok (.getfield 187, 3) := by decide +kernel
theorem dX5_first_18 : decode cX5_first 18 = .ok (.ireturn, 1) := by decide +kernel
set_option maxRecDepth 20000 in
theorem ggX5_least_X5_shipOf : GoodIn wsX5_least wsX5_shipOf := goodIn_r _ [8, 9, 10, 11, 12, 13, 14, 15, 16, 17, 18, 19, 20, 21, 22, 23, 24, 25, 26, 27, 28, 29, 30, 31, 32, 33, 121, 122, 123, 124, 125, 126, 127, 128, 129, 130, 131, 132, 133, 134, 135] (by decide +kernel) (by decide +kernel)
set_option maxRecDepth 20000 in
theorem gX5_least_X5_shipOf : GoodIn wsX5_least (wsV RX5 122 RX5 yX5_shipOf wsX5_shipOf) := goodIn_app (goodIn_of _ (by decide +kernel)) ggX5_least_X5_shipOf
set_option maxRecDepth 20000 in
theorem ggX5_least_X5_isNoWater : GoodIn wsX5_least wsX5_isNoWater := goodIn_r _ [37, 3, 38, 39, 7, 40, 41, 42, 43, 44, 45, 46, 121, 122, 123, 124, 125, 126, 127, 128, 129, 130, 131, 132, 136, 137, 138] (by decide +kernel) (by decide +kernel)
set_option maxRecDepth 20000 in
theorem gX5_least_X5_isNoWater : GoodIn wsX5_least (wsV RX5 104 RX5 yX5_isNoWater wsX5_isNoWater) := goodIn_app (goodIn_of _ (by decide +kernel)) ggX5_least_X5_isNoWater
set_option maxRecDepth 20000 in
theorem ggX5_least_X5_outside : GoodIn wsX5_least wsX5_outside := goodIn_r _ [40] (by decide +kernel) (by decide +kernel)
set_option maxRecDepth 20000 in
theorem gX5_least_X5_outside : GoodIn wsX5_least (va_wsS RX5 60 yX5_outside wsX5_outside) := goodIn_app (goodIn_of _ (by decide +kernel)) ggX5_least_X5_outside
set_option maxRecDepth 20000 in
theorem ggX5_least_X1_leastHours : GoodIn wsX5_least wsX1_leastHours := goodIn_r _ [51, 52, 53, 39, 7, 40, 54, 55, 56, 50, 57, 58, 59, 60, 61, 62, 63, 64, 44, 65, 66, 42, 43, 45, 46, 67, 68, 69, 70, 71, 72, 73, 74, 75, 76, 77, 78, 79, 80, 81, 82, 83, 84, 85, 86, 87, 88, 89, 90, 91, 92, 93, 94, 95, 96, 97, 98, 99, 100, 101, 102, 103, 104, 105, 106, 107, 108, 109, 110, 111, 112, 113, 114, 115, 116, 117, 118, 119, 120, 139, 140, 136, 137, 138, 141, 142, 143, 144, 145, 146, 147, 148, 149, 150, 151, 152, 153, 154] (by decide +kernel) (by decide +kernel)
set_option maxRecDepth 20000 in
theorem gX5_least_X1_leastHours : GoodIn wsX5_least (wsV RX5 191 RX1 yX1_leastHours wsX1_leastHours) := goodIn_app (goodIn_of _ (by decide +kernel)) ggX5_least_X1_leastHours
theorem dX5_least_0 : decode cX5_least 0 = .ok (.aload_n 0, 1) := by decide +kernel
theorem dX5_least_1 : decode cX5_least 1 = .ok (.iload_n 1, 1) := by decide +kernel
theorem dX5_least_2 : decode cX5_least 2 = .ok (.invokevirtual 122, 3) := by decide +kernel
theorem dX5_least_5 : decode cX5_least 5 = .ok (.astore 5, 2) := by decide +kernel
theorem dX5_least_7 : decode cX5_least 7 = .ok (.aload 5, 2) := by decide +kernel
theorem dX5_least_9 : decode cX5_least 9 = .ok (.ifnull 29, 3) := by decide +kernel
theorem dX5_least_12 : decode cX5_least 12 = .ok (.aload_n 0, 1) := by decide +kernel
theorem dX5_least_13 : decode cX5_least 13 = .ok (.iload_n 2, 1) := by decide +kernel
theorem dX5_least_14 : decode cX5_least 14 = .ok (.invokevirtual 104, 3) := by decide +kernel
theorem dX5_least_17 : decode cX5_least 17 = .ok (.ifCond .ne 21, 3) := by decide +kernel
theorem dX5_least_20 : decode cX5_least 20 = .ok (.aload_n 0, 1) := by decide +kernel
theorem dX5_least_21 : decode cX5_least 21 = .ok (.iload_n 3, 1) := by decide +kernel
theorem dX5_least_22 : decode cX5_least 22 = .ok (.invokevirtual 104, 3) := by decide +kernel
theorem dX5_least_25 : decode cX5_least 25 = .ok (.ifCond .ne 13, 3) := by decide +kernel
theorem dX5_least_28 : decode cX5_least 28 = .ok (.iload 4, 2) := by decide +kernel
theorem dX5_least_30 : decode cX5_least 30 = .ok (.ldc 190, 2) := by decide +kernel
theorem dX5_least_32 : decode cX5_least 32 = .ok (.invokestatic 60, 3) := by decide +kernel
theorem dX5_least_35 : decode cX5_least 35 = .ok (.ifCond .eq 5, 3) := by decide +kernel
theorem dX5_least_38 : decode cX5_least 38 = .ok (.iconst (-1), 1) := by decide +kernel
theorem dX5_least_39 : decode cX5_least 39 = .ok (.ireturn, 1) := by decide +kernel
theorem dX5_least_40 : decode cX5_least 40 = .ok (.aload_n 0, 1) := by decide +kernel
theorem dX5_least_41 : decode cX5_least 41 = .ok (.getfield 19, 3) := by decide +kernel
theorem dX5_least_44 : decode cX5_least 44 = .ok (.aload_n 0, 1) := by decide +kernel
theorem dX5_least_45 : decode cX5_least 45 = .ok (.getfield 10, 3) := by decide +kernel
theorem dX5_least_48 : decode cX5_least 48 = .ok (.aload 5, 2) := by decide +kernel
theorem dX5_least_50 : decode cX5_least 50 = .ok (.iload_n 2, 1) := by decide +kernel
theorem dX5_least_51 : decode cX5_least 51 = .ok (.iload_n 3, 1) := by decide +kernel
theorem dX5_least_52 : decode cX5_least 52 = .ok (.iload 4, 2) := by decide +kernel
theorem dX5_least_54 : decode cX5_least 54 = .ok (.invokevirtual 191, 3) := by decide +kernel
theorem dX5_least_57 : decode cX5_least 57 = .ok (.ireturn, 1) := by decide +kernel
set_option maxRecDepth 20000 in
theorem ggX5_sight_X5_shipOf : GoodIn wsX5_sight wsX5_shipOf := goodIn_r _ [11, 12, 13, 14, 15, 16, 17, 18, 19, 20, 21, 22, 23, 24, 25, 26, 27, 28, 29, 30, 31, 32, 33, 34, 35, 36, 115, 116, 117, 118, 119, 120, 121, 122, 123, 124, 125, 126, 143, 144, 145] (by decide +kernel) (by decide +kernel)
set_option maxRecDepth 20000 in
theorem gX5_sight_X5_shipOf : GoodIn wsX5_sight (wsV RX5 122 RX5 yX5_shipOf wsX5_shipOf) := goodIn_app (goodIn_of _ (by decide +kernel)) ggX5_sight_X5_shipOf
set_option maxRecDepth 20000 in
theorem ggX5_sight_X5_outside : GoodIn wsX5_sight wsX5_outside := goodIn_r _ [39] (by decide +kernel) (by decide +kernel)
set_option maxRecDepth 20000 in
theorem gX5_sight_X5_outside : GoodIn wsX5_sight (va_wsS RX5 60 yX5_outside wsX5_outside) := goodIn_app (goodIn_of _ (by decide +kernel)) ggX5_sight_X5_outside
set_option maxRecDepth 20000 in
theorem ggX5_sight_X3_isUnseenFrom : GoodIn wsX5_sight wsX3_isUnseenFrom := goodIn_r _ [44, 45, 46, 47, 43, 48, 49, 50, 51, 52, 15, 16, 17, 18, 19, 53, 21, 22, 23, 24, 25, 26, 27, 28, 29, 30, 31, 32, 33, 34, 35, 36, 127, 128, 129, 130, 131, 132, 133, 134, 135, 136, 137, 138, 139, 140, 141, 142, 143, 144, 145] (by decide +kernel) (by decide +kernel)
set_option maxRecDepth 20000 in
theorem gX5_sight_X3_isUnseenFrom : GoodIn wsX5_sight (wsV RX5 195 RX3 yX3_isUnseenFrom wsX3_isUnseenFrom) := goodIn_app (goodIn_of _ (by decide +kernel)) ggX5_sight_X3_isUnseenFrom
set_option maxRecDepth 20000 in
theorem ggX5_sight_X4_init : GoodIn wsX5_sight wsX4_init := goodIn_r _ [56, 57, 58, 59, 60, 61, 141, 142] (by decide +kernel) (by decide +kernel)
set_option maxRecDepth 20000 in
theorem gX5_sight_X4_init : GoodIn wsX5_sight (wsX4_init) := ggX5_sight_X4_init
set_option maxRecDepth 20000 in
theorem ggX5_sight_Jx4a65c_add_9ea2d : GoodIn wsX5_sight wsJx4a65c_add_9ea2d := goodIn_r _ [65, 66, 67, 36, 19, 68, 69, 70, 17, 71, 72, 73, 74, 75, 76, 77, 78, 79, 80, 81, 82, 83, 84, 85, 86, 87, 88, 89, 90, 91, 92, 93, 94, 95, 96, 97, 98, 99, 100, 101, 102, 103, 104, 105, 106, 107, 108, 109, 110, 111, 112, 113, 114, 143, 144, 145] (by decide +kernel) (by decide +kernel)
set_option maxRecDepth 20000 in
theorem gX5_sight_Jx4a65c_add_9ea2d_f118Jx4a65c : GoodIn wsX5_sight (va_wsF RX5 118 RJx4a65c ⟨"java/util/List", "add", "(Ljava/lang/Object;)Z"⟩ yJx4a65c_add_9ea2d wsJx4a65c_add_9ea2d) := goodIn_app (goodIn_of _ (by decide +kernel)) ggX5_sight_Jx4a65c_add_9ea2d
theorem dX5_sight_0 : decode cX5_sight 0 = .ok (.aload_n 0, 1) := by decide +kernel
theorem dX5_sight_1 : decode cX5_sight 1 = .ok (.iload_n 1, 1) := by decide +kernel
theorem dX5_sight_2 : decode cX5_sight 2 = .ok (.invokevirtual 122, 3) := by decide +kernel
theorem dX5_sight_5 : decode cX5_sight 5 = .ok (.astore 4, 2) := by decide +kernel
theorem dX5_sight_7 : decode cX5_sight 7 = .ok (.aload 4, 2) := by decide +kernel
theorem dX5_sight_9 : decode cX5_sight 9 = .ok (.ifnull 31, 3) := by decide +kernel
theorem dX5_sight_12 : decode cX5_sight 12 = .ok (.iload_n 2, 1) := by decide +kernel
theorem dX5_sight_13 : decode cX5_sight 13 = .ok (.sipush 159, 3) := by decide +kernel
theorem dX5_sight_16 : decode cX5_sight 16 = .ok (.invokestatic 60, 3) := by decide +kernel
theorem dX5_sight_19 : decode cX5_sight 19 = .ok (.ifCond .ne 21, 3) := by decide +kernel
theorem dX5_sight_22 : decode cX5_sight 22 = .ok (.iload_n 3, 1) := by decide +kernel
theorem dX5_sight_23 : decode cX5_sight 23 = .ok (.ldc 171, 2) := by decide +kernel
theorem dX5_sight_25 : decode cX5_sight 25 = .ok (.invokestatic 60, 3) := by decide +kernel
theorem dX5_sight_28 : decode cX5_sight 28 = .ok (.ifCond .ne 12, 3) := by decide +kernel
theorem dX5_sight_31 : decode cX5_sight 31 = .ok (.aload 4, 2) := by decide +kernel
theorem dX5_sight_33 : decode cX5_sight 33 = .ok (.iload_n 3, 1) := by decide +kernel
theorem dX5_sight_34 : decode cX5_sight 34 = .ok (.invokevirtual 195, 3) := by decide +kernel
theorem dX5_sight_37 : decode cX5_sight 37 = .ok (.ifCond .ne 5, 3) := by decide +kernel
theorem dX5_sight_40 : decode cX5_sight 40 = .ok (.iconst (-1), 1) := by decide +kernel
theorem dX5_sight_41 : decode cX5_sight 41 = .ok (.ireturn, 1) := by decide +kernel
theorem dX5_sight_42 : decode cX5_sight 42 = .ok (.aload_n 0, 1) := by decide +kernel
theorem dX5_sight_43 : decode cX5_sight 43 = .ok (.getfield 47, 3) := by decide +kernel
theorem dX5_sight_46 : decode cX5_sight 46 = .ok (.bipush 60, 2) := by decide +kernel
theorem dX5_sight_48 : decode cX5_sight 48 = .ok (.if_icmp .lt 6, 3) := by decide +kernel
theorem dX5_sight_51 : decode cX5_sight 51 = .ok (.bipush (-2), 2) := by decide +kernel
theorem dX5_sight_53 : decode cX5_sight 53 = .ok (.ireturn, 1) := by decide +kernel
theorem dX5_sight_54 : decode cX5_sight 54 = .ok (.aload 4, 2) := by decide +kernel
theorem dX5_sight_56 : decode cX5_sight 56 = .ok (.getfield 198, 3) := by decide +kernel
theorem dX5_sight_59 : decode cX5_sight 59 = .ok (.new 201, 3) := by decide +kernel
theorem dX5_sight_62 : decode cX5_sight 62 = .ok (.dup, 1) := by decide +kernel
theorem dX5_sight_63 : decode cX5_sight 63 = .ok (.iload_n 2, 1) := by decide +kernel
theorem dX5_sight_64 : decode cX5_sight 64 = .ok (.iload_n 3, 1) := by decide +kernel
theorem dX5_sight_65 : decode cX5_sight 65 = .ok (.invokespecial 203, 3) := by decide +kernel
theorem dX5_sight_68 : decode cX5_sight 68 = .ok (.invokeinterface 118 2, 5) := by decide +kernel
theorem dX5_sight_73 : decode cX5_sight 73 = .ok (.pop, 1) := by decide +kernel
theorem dX5_sight_74 : decode cX5_sight 74 = .ok (.aload_n 0, 1) := by decide +kernel
theorem dX5_sight_75 : decode cX5_sight 75 = .ok (.dup, 1) := by decide +kernel
theorem dX5_sight_76 : decode cX5_sight 76 = .ok (.getfield 47, 3) := by decide +kernel
theorem dX5_sight_79 : decode cX5_sight 79 = .ok (.iconst 1, 1) := by decide +kernel
theorem dX5_sight_80 : decode cX5_sight 80 = .ok (.iadd, 1) := by decide +kernel
theorem dX5_sight_81 : decode cX5_sight 81 = .ok (.putfield 47, 3) := by decide +kernel
theorem dX5_sight_84 : decode cX5_sight 84 = .ok (.aload_n 0, 1) := by decide +kernel
theorem dX5_sight_85 : decode cX5_sight 85 = .ok (.getfield 47, 3) := by decide +kernel
theorem dX5_sight_88 : decode cX5_sight 88 = .ok (.ireturn, 1) := by decide +kernel
set_option maxRecDepth 20000 in
theorem ggX5_distance_X5_shipOf : GoodIn wsX5_distance wsX5_shipOf := goodIn_r _ [6, 7, 8, 9, 10, 11, 12, 13, 14, 15, 16, 17, 18, 19, 20, 21, 22, 23, 24, 25, 26, 27, 28, 29, 30, 31, 74, 75, 76, 77, 78, 79, 80, 81, 82, 83, 84, 85, 86, 87, 88] (by decide +kernel) (by decide +kernel)
set_option maxRecDepth 20000 in
theorem gX5_distance_X5_shipOf : GoodIn wsX5_distance (wsV RX5 122 RX5 yX5_shipOf wsX5_shipOf) := goodIn_app (goodIn_of _ (by decide +kernel)) ggX5_distance_X5_shipOf
set_option maxRecDepth 20000 in
theorem ggX5_distance_X5_outside : GoodIn wsX5_distance wsX5_outside := goodIn_r _ [34] (by decide +kernel) (by decide +kernel)
set_option maxRecDepth 20000 in
theorem gX5_distance_X5_outside : GoodIn wsX5_distance (va_wsS RX5 60 yX5_outside wsX5_outside) := goodIn_app (goodIn_of _ (by decide +kernel)) ggX5_distance_X5_outside
set_option maxRecDepth 20000 in
theorem ggX5_distance_X5_mostDistance : GoodIn wsX5_distance wsX5_mostDistance := goodIn_r _ [38, 39, 40, 41, 42, 43, 44, 45, 46, 47, 48, 49, 50, 51, 52, 53, 10, 11, 12, 13, 14, 54, 16, 17, 18, 19, 20, 21, 22, 23, 24, 25, 26, 27, 28, 29, 30, 31, 55, 56, 57, 58, 59, 60, 61, 5, 62, 63, 64, 65, 66, 67, 68, 69, 89, 90, 91, 92, 93, 94, 95, 96, 97, 98, 99, 100, 101, 102, 103, 104, 86, 87, 88, 74, 75, 76, 77, 78, 79, 80, 81, 82, 83, 84, 85] (by decide +kernel) (by decide +kernel)
set_option maxRecDepth 20000 in
theorem gX5_distance_X5_mostDistance : GoodIn wsX5_distance (wsV RX5 206 RX5 yX5_mostDistance wsX5_mostDistance) := goodIn_app (goodIn_of _ (by decide +kernel)) ggX5_distance_X5_mostDistance
set_option maxRecDepth 20000 in
theorem ggX5_distance_X5_leastDistance : GoodIn wsX5_distance wsX5_leastDistance := goodIn_r _ [73, 39, 40, 67, 68, 43, 69, 45, 46, 47, 48, 49, 50, 51, 52, 53, 10, 11, 12, 13, 14, 54, 16, 17, 18, 19, 20, 21, 22, 23, 24, 25, 26, 27, 28, 29, 30, 31, 55, 56, 57, 58, 59, 60, 61, 5, 62, 63, 64, 65, 66, 89, 90, 91, 92, 93, 94, 95, 96, 97, 98, 99, 100, 101, 102, 103, 104, 86, 87, 88, 74, 75, 76, 77, 78, 79, 80, 81, 82, 83, 84, 85] (by decide +kernel) (by decide +kernel)
set_option maxRecDepth 20000 in
theorem gX5_distance_X5_leastDistance : GoodIn wsX5_distance (wsV RX5 210 RX5 yX5_leastDistance wsX5_leastDistance) := goodIn_app (goodIn_of _ (by decide +kernel)) ggX5_distance_X5_leastDistance
theorem dX5_distance_0 : decode cX5_distance 0 = .ok (.aload_n 0, 1) := by decide +kernel
theorem dX5_distance_1 : decode cX5_distance 1 = .ok (.iload_n 1, 1) := by decide +kernel
theorem dX5_distance_2 : decode cX5_distance 2 = .ok (.invokevirtual 122, 3) := by decide +kernel
theorem dX5_distance_5 : decode cX5_distance 5 = .ok (.astore 4, 2) := by decide +kernel
theorem dX5_distance_7 : decode cX5_distance 7 = .ok (.aload 4, 2) := by decide +kernel
theorem dX5_distance_9 : decode cX5_distance 9 = .ok (.ifnull 12, 3) := by decide +kernel
theorem dX5_distance_12 : decode cX5_distance 12 = .ok (.iload_n 2, 1) := by decide +kernel
theorem dX5_distance_13 : decode cX5_distance 13 = .ok (.ldc 171, 2) := by decide +kernel
theorem dX5_distance_15 : decode cX5_distance 15 = .ok (.invokestatic 60, 3) := by decide +kernel
theorem dX5_distance_18 : decode cX5_distance 18 = .ok (.ifCond .eq 5, 3) := by decide +kernel
theorem dX5_distance_21 : decode cX5_distance 21 = .ok (.iconst (-1), 1) := by decide +kernel
theorem dX5_distance_22 : decode cX5_distance 22 = .ok (.ireturn, 1) := by decide +kernel
theorem dX5_distance_23 : decode cX5_distance 23 = .ok (.iload_n 3, 1) := by decide +kernel
theorem dX5_distance_24 : decode cX5_distance 24 = .ok (.ifCond .eq 13, 3) := by decide +kernel
theorem dX5_distance_27 : decode cX5_distance 27 = .ok (.aload_n 0, 1) := by decide +kernel
theorem dX5_distance_28 : decode cX5_distance 28 = .ok (.aload 4, 2) := by decide +kernel
theorem dX5_distance_30 : decode cX5_distance 30 = .ok (.iload_n 2, 1) := by decide +kernel
theorem dX5_distance_31 : decode cX5_distance 31 = .ok (.invokevirtual 206, 3) := by decide +kernel
theorem dX5_distance_34 : decode cX5_distance 34 = .ok (.goto 10, 3) := by decide +kernel
theorem dX5_distance_37 : decode cX5_distance 37 = .ok (.aload_n 0, 1) := by decide +kernel
theorem dX5_distance_38 : decode cX5_distance 38 = .ok (.aload 4, 2) := by decide +kernel
theorem dX5_distance_40 : decode cX5_distance 40 = .ok (.iload_n 2, 1) := by decide +kernel
theorem dX5_distance_41 : decode cX5_distance 41 = .ok (.invokevirtual 210, 3) := by decide +kernel
theorem dX5_distance_44 : decode cX5_distance 44 = .ok (.ireturn, 1) := by decide +kernel
set_option maxRecDepth 20000 in
theorem ggX5_ahead_X5_shipOf : GoodIn wsX5_ahead wsX5_shipOf := goodIn_r _ [6, 7, 8, 9, 10, 11, 12, 13, 14, 15, 16, 17, 18, 19, 20, 21, 22, 23, 24, 25, 26, 27, 28, 29, 30, 31, 80, 81, 82, 83, 84, 85, 86, 87, 88, 89, 90, 91, 92, 93, 94] (by decide +kernel) (by decide +kernel)
set_option maxRecDepth 20000 in
theorem gX5_ahead_X5_shipOf : GoodIn wsX5_ahead (wsV RX5 122 RX5 yX5_shipOf wsX5_shipOf) := goodIn_app (goodIn_of _ (by decide +kernel)) ggX5_ahead_X5_shipOf
set_option maxRecDepth 20000 in
theorem ggX5_ahead_X5_outside : GoodIn wsX5_ahead wsX5_outside := goodIn_r _ [34] (by decide +kernel) (by decide +kernel)
set_option maxRecDepth 20000 in
theorem gX5_ahead_X5_outside : GoodIn wsX5_ahead (va_wsS RX5 60 yX5_outside wsX5_outside) := goodIn_app (goodIn_of _ (by decide +kernel)) ggX5_ahead_X5_outside
set_option maxRecDepth 20000 in
theorem ggX5_ahead_X3_isSeenAround : GoodIn wsX5_ahead wsX3_isSeenAround := goodIn_r _ [39, 40, 41, 42, 38, 43, 44, 45, 46, 47, 10, 11, 12, 13, 14, 48, 16, 17, 18, 19, 20, 21, 22, 23, 24, 25, 26, 27, 28, 29, 30, 31, 49, 50, 51, 52, 95, 96, 97, 98, 99, 100, 101, 102, 103, 104, 105, 106, 107, 108, 109, 110, 92, 93, 94] (by decide +kernel) (by decide +kernel)
set_option maxRecDepth 20000 in
theorem gX5_ahead_X3_isSeenAround : GoodIn wsX5_ahead (wsV RX5 213 RX3 yX3_isSeenAround wsX3_isSeenAround) := goodIn_app (goodIn_of _ (by decide +kernel)) ggX5_ahead_X3_isSeenAround
set_option maxRecDepth 20000 in
theorem ggX5_ahead_X5_mostDistance : GoodIn wsX5_ahead wsX5_mostDistance := goodIn_r _ [56, 57, 58, 59, 60, 61, 62, 63, 41, 42, 38, 43, 44, 45, 46, 47, 10, 11, 12, 13, 14, 48, 16, 17, 18, 19, 20, 21, 22, 23, 24, 25, 26, 27, 28, 29, 30, 31, 64, 50, 51, 52, 65, 66, 67, 5, 68, 69, 70, 71, 72, 73, 74, 75, 109, 110, 95, 96, 97, 98, 99, 100, 101, 102, 103, 104, 105, 106, 107, 108, 92, 93, 94, 80, 81, 82, 83, 84, 85, 86, 87, 88, 89, 90, 91] (by decide +kernel) (by decide +kernel)
set_option maxRecDepth 20000 in
theorem gX5_ahead_X5_mostDistance : GoodIn wsX5_ahead (wsV RX5 206 RX5 yX5_mostDistance wsX5_mostDistance) := goodIn_app (goodIn_of _ (by decide +kernel)) ggX5_ahead_X5_mostDistance
set_option maxRecDepth 20000 in
theorem ggX5_ahead_X5_leastDistance : GoodIn wsX5_ahead wsX5_leastDistance := goodIn_r _ [79, 57, 58, 73, 74, 61, 75, 63, 41, 42, 38, 43, 44, 45, 46, 47, 10, 11, 12, 13, 14, 48, 16, 17, 18, 19, 20, 21, 22, 23, 24, 25, 26, 27, 28, 29, 30, 31, 64, 50, 51, 52, 65, 66, 67, 5, 68, 69, 70, 71, 72, 109, 110, 95, 96, 97, 98, 99, 100, 101, 102, 103, 104, 105, 106, 107, 108, 92, 93, 94, 80, 81, 82, 83, 84, 85, 86, 87, 88, 89, 90, 91] (by decide +kernel) (by decide +kernel)
set_option maxRecDepth 20000 in
theorem gX5_ahead_X5_leastDistance : GoodIn wsX5_ahead (wsV RX5 210 RX5 yX5_leastDistance wsX5_leastDistance) := goodIn_app (goodIn_of _ (by decide +kernel)) ggX5_ahead_X5_leastDistance
theorem dX5_ahead_0 : decode cX5_ahead 0 = .ok (.aload_n 0, 1) := by decide +kernel
theorem dX5_ahead_1 : decode cX5_ahead 1 = .ok (.iload_n 1, 1) := by decide +kernel
theorem dX5_ahead_2 : decode cX5_ahead 2 = .ok (.invokevirtual 122, 3) := by decide +kernel
theorem dX5_ahead_5 : decode cX5_ahead 5 = .ok (.astore 4, 2) := by decide +kernel
theorem dX5_ahead_7 : decode cX5_ahead 7 = .ok (.aload_n 0, 1) := by decide +kernel
theorem dX5_ahead_8 : decode cX5_ahead 8 = .ok (.iload_n 2, 1) := by decide +kernel
theorem dX5_ahead_9 : decode cX5_ahead 9 = .ok (.invokevirtual 122, 3) := by decide +kernel
theorem dX5_ahead_12 : decode cX5_ahead 12 = .ok (.astore 5, 2) := by decide +kernel
theorem dX5_ahead_14 : decode cX5_ahead 14 = .ok (.aload 4, 2) := by decide +kernel
theorem dX5_ahead_16 : decode cX5_ahead 16 = .ok (.ifnull 22, 3) := by decide +kernel
theorem dX5_ahead_19 : decode cX5_ahead 19 = .ok (.aload 5, 2) := by decide +kernel
theorem dX5_ahead_21 : decode cX5_ahead 21 = .ok (.ifnull 17, 3) := by decide +kernel
theorem dX5_ahead_24 : decode cX5_ahead 24 = .ok (.iload_n 1, 1) := by decide +kernel
theorem dX5_ahead_25 : decode cX5_ahead 25 = .ok (.iload_n 2, 1) := by decide +kernel
theorem dX5_ahead_26 : decode cX5_ahead 26 = .ok (.if_icmp .eq 12, 3) := by decide +kernel
theorem dX5_ahead_29 : decode cX5_ahead 29 = .ok (.iload_n 3, 1) := by decide +kernel
theorem dX5_ahead_30 : decode cX5_ahead 30 = .ok (.ldc 171, 2) := by decide +kernel
theorem dX5_ahead_32 : decode cX5_ahead 32 = .ok (.invokestatic 60, 3) := by decide +kernel
theorem dX5_ahead_35 : decode cX5_ahead 35 = .ok (.ifCond .eq 5, 3) := by decide +kernel
theorem dX5_ahead_38 : decode cX5_ahead 38 = .ok (.iconst (-1), 1) := by decide +kernel
theorem dX5_ahead_39 : decode cX5_ahead 39 = .ok (.ireturn, 1) := by decide +kernel
theorem dX5_ahead_40 : decode cX5_ahead 40 = .ok (.aload 4, 2) := by decide +kernel
theorem dX5_ahead_42 : decode cX5_ahead 42 = .ok (.iload_n 3, 1) := by decide +kernel
theorem dX5_ahead_43 : decode cX5_ahead 43 = .ok (.invokevirtual 213, 3) := by decide +kernel
theorem dX5_ahead_46 : decode cX5_ahead 46 = .ok (.ifCond .eq 12, 3) := by decide +kernel
theorem dX5_ahead_49 : decode cX5_ahead 49 = .ok (.aload 5, 2) := by decide +kernel
theorem dX5_ahead_51 : decode cX5_ahead 51 = .ok (.iload_n 3, 1) := by decide +kernel
theorem dX5_ahead_52 : decode cX5_ahead 52 = .ok (.invokevirtual 213, 3) := by decide +kernel
theorem dX5_ahead_55 : decode cX5_ahead 55 = .ok (.ifCond .ne 6, 3) := by decide +kernel
theorem dX5_ahead_58 : decode cX5_ahead 58 = .ok (.bipush (-9), 2) := by decide +kernel
theorem dX5_ahead_60 : decode cX5_ahead 60 = .ok (.ireturn, 1) := by decide +kernel
theorem dX5_ahead_61 : decode cX5_ahead 61 = .ok (.aload_n 0, 1) := by decide +kernel
theorem dX5_ahead_62 : decode cX5_ahead 62 = .ok (.aload 4, 2) := by decide +kernel
theorem dX5_ahead_64 : decode cX5_ahead 64 = .ok (.iload_n 3, 1) := by decide +kernel
theorem dX5_ahead_65 : decode cX5_ahead 65 = .ok (.invokevirtual 206, 3) := by decide +kernel
theorem dX5_ahead_68 : decode cX5_ahead 68 = .ok (.aload_n 0, 1) := by decide +kernel
theorem dX5_ahead_69 : decode cX5_ahead 69 = .ok (.aload 5, 2) := by decide +kernel
theorem dX5_ahead_71 : decode cX5_ahead 71 = .ok (.iload_n 3, 1) := by decide +kernel
theorem dX5_ahead_72 : decode cX5_ahead 72 = .ok (.invokevirtual 210, 3) := by decide +kernel
theorem dX5_ahead_75 : decode cX5_ahead 75 = .ok (.if_icmp .ge 5, 3) := by decide +kernel
theorem dX5_ahead_78 : decode cX5_ahead 78 = .ok (.iconst 0, 1) := by decide +kernel
theorem dX5_ahead_79 : decode cX5_ahead 79 = .ok (.ireturn, 1) := by decide +kernel
theorem dX5_ahead_80 : decode cX5_ahead 80 = .ok (.aload_n 0, 1) := by decide +kernel
theorem dX5_ahead_81 : decode cX5_ahead 81 = .ok (.aload 5, 2) := by decide +kernel
theorem dX5_ahead_83 : decode cX5_ahead 83 = .ok (.iload_n 3, 1) := by decide +kernel
theorem dX5_ahead_84 : decode cX5_ahead 84 = .ok (.invokevirtual 206, 3) := by decide +kernel
theorem dX5_ahead_87 : decode cX5_ahead 87 = .ok (.aload_n 0, 1) := by decide +kernel
theorem dX5_ahead_88 : decode cX5_ahead 88 = .ok (.aload 4, 2) := by decide +kernel
theorem dX5_ahead_90 : decode cX5_ahead 90 = .ok (.iload_n 3, 1) := by decide +kernel
theorem dX5_ahead_91 : decode cX5_ahead 91 = .ok (.invokevirtual 210, 3) := by decide +kernel
theorem dX5_ahead_94 : decode cX5_ahead 94 = .ok (.if_icmp .ge 7, 3) := by decide +kernel
theorem dX5_ahead_97 : decode cX5_ahead 97 = .ok (.iconst 1, 1) := by decide +kernel
theorem dX5_ahead_98 : decode cX5_ahead 98 = .ok (.goto 4, 3) := by decide +kernel
theorem dX5_ahead_101 : decode cX5_ahead 101 = .ok (.iconst 2, 1) := by decide +kernel
theorem dX5_ahead_102 : decode cX5_ahead 102 = .ok (.ireturn, 1) := by decide +kernel
set_option maxRecDepth 20000 in
theorem ggX5_charter_X5_shipOf : GoodIn wsX5_charter wsX5_shipOf := goodIn_r _ [8, 9, 10, 11, 12, 13, 14, 15, 16, 17, 18, 19, 20, 21, 22, 23, 24, 25, 26, 27, 28, 29, 30, 31, 32, 33, 51, 52, 53, 54, 55, 56, 57, 58, 59, 60, 61, 62, 63, 64, 65] (by decide +kernel) (by decide +kernel)
set_option maxRecDepth 20000 in
theorem gX5_charter_X5_shipOf : GoodIn wsX5_charter (wsV RX5 122 RX5 yX5_shipOf wsX5_shipOf) := goodIn_app (goodIn_of _ (by decide +kernel)) ggX5_charter_X5_shipOf
set_option maxRecDepth 20000 in
theorem ggX5_charter_X5_outside : GoodIn wsX5_charter wsX5_outside := goodIn_r _ [36] (by decide +kernel) (by decide +kernel)
set_option maxRecDepth 20000 in
theorem gX5_charter_X5_outside : GoodIn wsX5_charter (va_wsS RX5 60 yX5_outside wsX5_outside) := goodIn_app (goodIn_of _ (by decide +kernel)) ggX5_charter_X5_outside
theorem dX5_charter_0 : decode cX5_charter 0 = .ok (.aload_n 0, 1) := by decide +kernel
theorem dX5_charter_1 : decode cX5_charter 1 = .ok (.iload_n 1, 1) := by decide +kernel
theorem dX5_charter_2 : decode cX5_charter 2 = .ok (.invokevirtual 122, 3) := by decide +kernel
theorem dX5_charter_5 : decode cX5_charter 5 = .ok (.astore 4, 2) := by decide +kernel
theorem dX5_charter_7 : decode cX5_charter 7 = .ok (.aload 4, 2) := by decide +kernel
theorem dX5_charter_9 : decode cX5_charter 9 = .ok (.ifnull 22, 3) := by decide +kernel
theorem dX5_charter_12 : decode cX5_charter 12 = .ok (.iload_n 2, 1) := by decide +kernel
theorem dX5_charter_13 : decode cX5_charter 13 = .ok (.sipush 1000, 3) := by decide +kernel
theorem dX5_charter_16 : decode cX5_charter 16 = .ok (.invokestatic 60, 3) := by decide +kernel
theorem dX5_charter_19 : decode cX5_charter 19 = .ok (.ifCond .ne 12, 3) := by decide +kernel
theorem dX5_charter_22 : decode cX5_charter 22 = .ok (.iload_n 3, 1) := by decide +kernel
theorem dX5_charter_23 : decode cX5_charter 23 = .ok (.ldc 171, 2) := by decide +kernel
theorem dX5_charter_25 : decode cX5_charter 25 = .ok (.invokestatic 60, 3) := by decide +kernel
theorem dX5_charter_28 : decode cX5_charter 28 = .ok (.ifCond .eq 5, 3) := by decide +kernel
theorem dX5_charter_31 : decode cX5_charter 31 = .ok (.iconst (-1), 1) := by decide +kernel
theorem dX5_charter_32 : decode cX5_charter 32 = .ok (.ireturn, 1) := by decide +kernel
theorem dX5_charter_33 : decode cX5_charter 33 = .ok (.aload 4, 2) := by decide +kernel
theorem dX5_charter_35 : decode cX5_charter 35 = .ok (.iload_n 2, 1) := by decide +kernel
theorem dX5_charter_36 : decode cX5_charter 36 = .ok (.putfield 216, 3) := by decide +kernel
theorem dX5_charter_39 : decode cX5_charter 39 = .ok (.aload 4, 2) := by decide +kernel
theorem dX5_charter_41 : decode cX5_charter 41 = .ok (.iload_n 3, 1) := by decide +kernel
theorem dX5_charter_42 : decode cX5_charter 42 = .ok (.putfield 219, 3) := by decide +kernel
theorem dX5_charter_45 : decode cX5_charter 45 = .ok (.iconst 1, 1) := by decide +kernel
theorem dX5_charter_46 : decode cX5_charter 46 = .ok (.ireturn, 1) := by decide +kernel
set_option maxRecDepth 20000 in
theorem ggX5_freight_X5_shipOf : GoodIn wsX5_freight wsX5_shipOf := goodIn_r _ [8, 9, 10, 11, 12, 13, 14, 15, 16, 17, 18, 19, 20, 21, 22, 23, 24, 25, 26, 27, 28, 29, 30, 31, 32, 33, 64, 65, 66, 67, 68, 69, 70, 71, 72, 73, 74, 75, 76, 77, 78] (by decide +kernel) (by decide +kernel)
set_option maxRecDepth 20000 in
theorem gX5_freight_X5_shipOf : GoodIn wsX5_freight (wsV RX5 122 RX5 yX5_shipOf wsX5_shipOf) := goodIn_app (goodIn_of _ (by decide +kernel)) ggX5_freight_X5_shipOf
set_option maxRecDepth 20000 in
theorem ggX5_freight_X3_isHome : GoodIn wsX5_freight wsX3_isHome := goodIn_r _ [38, 39, 50, 51, 52, 53, 54, 55, 56, 57, 58, 59, 60, 61, 62, 63] (by decide +kernel) (by decide +kernel)
set_option maxRecDepth 20000 in
theorem gX5_freight_X3_isHome : GoodIn wsX5_freight (wsV RX5 222 RX3 yX3_isHome wsX3_isHome) := goodIn_app (goodIn_of _ (by decide +kernel)) ggX5_freight_X3_isHome
set_option maxRecDepth 20000 in
theorem ggX5_freight_X5_theFirst : GoodIn wsX5_freight wsX5_theFirst := goodIn_r _ [43, 9, 10, 11, 12, 13, 14, 15, 16, 17, 18, 19, 20, 21, 22, 23, 24, 25, 26, 27, 28, 29, 30, 31, 32, 33, 34, 35, 36, 37, 38, 39, 44, 45, 46, 47, 48, 49, 64, 65, 66, 67, 68, 69, 70, 71, 72, 73, 74, 75, 76, 77, 78, 50, 51, 52, 53, 54, 55, 56, 57, 58, 59, 60, 61, 62, 63] (by decide +kernel) (by decide +kernel)
set_option maxRecDepth 20000 in
theorem gX5_freight_X5_theFirst : GoodIn wsX5_freight (wsV RX5 183 RX5 yX5_theFirst wsX5_theFirst) := goodIn_app (goodIn_of _ (by decide +kernel)) ggX5_freight_X5_theFirst
theorem dX5_freight_0 : decode cX5_freight 0 = .ok (.aload_n 0, 1) := by decide +kernel
theorem dX5_freight_1 : decode cX5_freight 1 = .ok (.iload_n 1, 1) := by decide +kernel
theorem dX5_freight_2 : decode cX5_freight 2 = .ok (.invokevirtual 122, 3) := by decide +kernel
theorem dX5_freight_5 : decode cX5_freight 5 = .ok (.astore_n 2, 1) := by decide +kernel
theorem dX5_freight_6 : decode cX5_freight 6 = .ok (.aload_n 2, 1) := by decide +kernel
theorem dX5_freight_7 : decode cX5_freight 7 = .ok (.ifnonnull 5, 3) := by decide +kernel
theorem dX5_freight_10 : decode cX5_freight 10 = .ok (.iconst (-1), 1) := by decide +kernel
theorem dX5_freight_11 : decode cX5_freight 11 = .ok (.ireturn, 1) := by decide +kernel
theorem dX5_freight_12 : decode cX5_freight 12 = .ok (.aload_n 2, 1) := by decide +kernel
theorem dX5_freight_13 : decode cX5_freight 13 = .ok (.invokevirtual 222, 3) := by decide +kernel
theorem dX5_freight_16 : decode cX5_freight 16 = .ok (.ifCond .ne 6, 3) := by decide +kernel
theorem dX5_freight_19 : decode cX5_freight 19 = .ok (.bipush (-4), 2) := by decide +kernel
theorem dX5_freight_21 : decode cX5_freight 21 = .ok (.ireturn, 1) := by decide +kernel
theorem dX5_freight_22 : decode cX5_freight 22 = .ok (.aload_n 2, 1) := by decide +kernel
theorem dX5_freight_23 : decode cX5_freight 23 = .ok (.aload_n 0, 1) := by decide +kernel
theorem dX5_freight_24 : decode cX5_freight 24 = .ok (.invokevirtual 183, 3) := by decide +kernel
theorem dX5_freight_27 : decode cX5_freight 27 = .ok (.if_acmp .ne 10, 3) := by decide +kernel
theorem dX5_freight_30 : decode cX5_freight 30 = .ok (.aload_n 2, 1) := by decide +kernel
theorem dX5_freight_31 : decode cX5_freight 31 = .ok (.getfield 219, 3) := by decide +kernel
theorem dX5_freight_34 : decode cX5_freight 34 = .ok (.goto 4, 3) := by decide +kernel
theorem dX5_freight_37 : decode cX5_freight 37 = .ok (.iconst 0, 1) := by decide +kernel
theorem dX5_freight_38 : decode cX5_freight 38 = .ok (.istore_n 3, 1) := by decide +kernel
theorem dX5_freight_39 : decode cX5_freight 39 = .ok (.aload_n 2, 1) := by decide +kernel
theorem dX5_freight_40 : decode cX5_freight 40 = .ok (.getfield 147, 3) := by decide +kernel
theorem dX5_freight_43 : decode cX5_freight 43 = .ok (.aload_n 2, 1) := by decide +kernel
theorem dX5_freight_44 : decode cX5_freight 44 = .ok (.getfield 216, 3) := by decide +kernel
theorem dX5_freight_47 : decode cX5_freight 47 = .ok (.imul, 1) := by decide +kernel
theorem dX5_freight_48 : decode cX5_freight 48 = .ok (.iload_n 3, 1) := by decide +kernel
theorem dX5_freight_49 : decode cX5_freight 49 = .ok (.iadd, 1) := by decide +kernel
theorem dX5_freight_50 : decode cX5_freight 50 = .ok (.ireturn, 1) := by decide +kernel
set_option maxRecDepth 20000 in
theorem ggX5_market_X5_outside : GoodIn wsX5_market wsX5_outside := goodIn_r _ [6] (by decide +kernel) (by decide +kernel)
set_option maxRecDepth 20000 in
theorem gX5_market_X5_outside : GoodIn wsX5_market (va_wsS RX5 60 yX5_outside wsX5_outside) := goodIn_app (goodIn_of _ (by decide +kernel)) ggX5_market_X5_outside
theorem dX5_market_0 : decode cX5_market 0 = .ok (.iload_n 1, 1) := by decide +kernel
theorem dX5_market_1 : decode cX5_market 1 = .ok (.iconst 1, 1) := by decide +kernel
theorem dX5_market_2 : decode cX5_market 2 = .ok (.if_icmp .lt 20, 3) := by decide +kernel
theorem dX5_market_5 : decode cX5_market 5 = .ok (.iload_n 1, 1) := by decide +kernel
theorem dX5_market_6 : decode cX5_market 6 = .ok (.sipush 10000, 3) := by decide +kernel
theorem dX5_market_9 : decode cX5_market 9 = .ok (.if_icmp .gt 13, 3) := by decide +kernel
theorem dX5_market_12 : decode cX5_market 12 = .ok (.iload_n 2, 1) := by decide +kernel
theorem dX5_market_13 : decode cX5_market 13 = .ok (.sipush 1000, 3) := by decide +kernel
theorem dX5_market_16 : decode cX5_market 16 = .ok (.invokestatic 60, 3) := by decide +kernel
theorem dX5_market_19 : decode cX5_market 19 = .ok (.ifCond .eq 5, 3) := by decide +kernel
theorem dX5_market_22 : decode cX5_market 22 = .ok (.iconst (-1), 1) := by decide +kernel
theorem dX5_market_23 : decode cX5_market 23 = .ok (.ireturn, 1) := by decide +kernel
theorem dX5_market_24 : decode cX5_market 24 = .ok (.aload_n 0, 1) := by decide +kernel
theorem dX5_market_25 : decode cX5_market 25 = .ok (.iload_n 1, 1) := by decide +kernel
theorem dX5_market_26 : decode cX5_market 26 = .ok (.putfield 50, 3) := by decide +kernel
theorem dX5_market_29 : decode cX5_market 29 = .ok (.aload_n 0, 1) := by decide +kernel
theorem dX5_market_30 : decode cX5_market 30 = .ok (.iload_n 2, 1) := by decide +kernel
theorem dX5_market_31 : decode cX5_market 31 = .ok (.putfield 53, 3) := by decide +kernel
theorem dX5_market_34 : decode cX5_market 34 = .ok (.iconst 1, 1) := by decide +kernel
theorem dX5_market_35 : decode cX5_market 35 = .ok (.ireturn, 1) := by decide +kernel
set_option maxRecDepth 20000 in
theorem ggX5_sale_X5_shipOf : GoodIn wsX5_sale wsX5_shipOf := goodIn_r _ [6, 7, 8, 9, 10, 11, 12, 13, 14, 15, 16, 17, 18, 19, 20, 21, 22, 23, 24, 25, 26, 27, 28, 29, 30, 31, 59, 60, 61, 62, 63, 64, 65, 66, 67, 68, 69, 70, 71, 72, 73] (by decide +kernel) (by decide +kernel)
set_option maxRecDepth 20000 in
theorem gX5_sale_X5_shipOf : GoodIn wsX5_sale (wsV RX5 122 RX5 yX5_shipOf wsX5_shipOf) := goodIn_app (goodIn_of _ (by decide +kernel)) ggX5_sale_X5_shipOf
set_option maxRecDepth 20000 in
theorem ggX5_sale_X3_isHome : GoodIn wsX5_sale wsX3_isHome := goodIn_r _ [36, 37, 74, 75, 76, 77, 78, 79, 80, 81, 82, 83, 84, 85, 86, 87] (by decide +kernel) (by decide +kernel)
set_option maxRecDepth 20000 in
theorem gX5_sale_X3_isHome : GoodIn wsX5_sale (wsV RX5 222 RX3 yX3_isHome wsX3_isHome) := goodIn_app (goodIn_of _ (by decide +kernel)) ggX5_sale_X3_isHome
set_option maxRecDepth 20000 in
theorem ggX5_sale_X5_takings : GoodIn wsX5_sale wsX5_takings := goodIn_r _ [41, 42, 43, 44, 45, 5, 46, 7, 8, 47, 48, 49, 50, 51, 52, 9, 10, 11, 12, 13, 14, 15, 16, 17, 18, 19, 20, 21, 22, 23, 24, 25, 26, 27, 28, 29, 30, 31, 32, 33, 34, 35, 36, 37, 53, 54, 55, 56, 57, 58, 74, 75, 76, 77, 78, 79, 80, 81, 82, 83, 84, 85, 86, 87, 59, 60, 61, 62, 63, 64, 65, 66, 67, 68, 69, 70, 71, 72, 73] (by decide +kernel) (by decide +kernel)
set_option maxRecDepth 20000 in
theorem gX5_sale_X5_takings : GoodIn wsX5_sale (wsV RX5 226 RX5 yX5_takings wsX5_takings) := goodIn_app (goodIn_of _ (by decide +kernel)) ggX5_sale_X5_takings
set_option maxRecDepth 20000 in
theorem ggX5_sale_X5_priceAtEntry : GoodIn wsX5_sale wsX5_priceAtEntry := goodIn_r _ [46, 7, 8, 42, 47, 48, 49, 50, 51, 52, 9, 10, 11, 12, 13, 14, 15, 16, 17, 18, 19, 20, 21, 22, 23, 24, 25, 26, 27, 28, 29, 30, 31, 32, 33, 34, 35, 36, 37, 53, 54, 55, 56, 57, 58, 59, 60, 61, 62, 63, 64, 65, 66, 67, 68, 69, 70, 74, 75, 76, 77, 78, 79, 80, 81, 82, 83, 84, 85, 86, 87, 71, 72, 73] (by decide +kernel) (by decide +kernel)
set_option maxRecDepth 20000 in
theorem gX5_sale_X5_priceAtEntry : GoodIn wsX5_sale (wsV RX5 230 RX5 yX5_priceAtEntry wsX5_priceAtEntry) := goodIn_app (goodIn_of _ (by decide +kernel)) ggX5_sale_X5_priceAtEntry
theorem dX5_sale_0 : decode cX5_sale 0 = .ok (.aload_n 0, 1) := by decide +kernel
theorem dX5_sale_1 : decode cX5_sale 1 = .ok (.iload_n 1, 1) := by decide +kernel
theorem dX5_sale_2 : decode cX5_sale 2 = .ok (.invokevirtual 122, 3) := by decide +kernel
theorem dX5_sale_5 : decode cX5_sale 5 = .ok (.astore_n 2, 1) := by decide +kernel
theorem dX5_sale_6 : decode cX5_sale 6 = .ok (.aload_n 2, 1) := by decide +kernel
theorem dX5_sale_7 : decode cX5_sale 7 = .ok (.ifnonnull 5, 3) := by decide +kernel
theorem dX5_sale_10 : decode cX5_sale 10 = .ok (.iconst (-1), 1) := by decide +kernel
theorem dX5_sale_11 : decode cX5_sale 11 = .ok (.ireturn, 1) := by decide +kernel
theorem dX5_sale_12 : decode cX5_sale 12 = .ok (.aload_n 2, 1) := by decide +kernel
theorem dX5_sale_13 : decode cX5_sale 13 = .ok (.invokevirtual 222, 3) := by decide +kernel
theorem dX5_sale_16 : decode cX5_sale 16 = .ok (.ifCond .ne 6, 3) := by decide +kernel
theorem dX5_sale_19 : decode cX5_sale 19 = .ok (.bipush (-4), 2) := by decide +kernel
theorem dX5_sale_21 : decode cX5_sale 21 = .ok (.ireturn, 1) := by decide +kernel
theorem dX5_sale_22 : decode cX5_sale 22 = .ok (.aload_n 0, 1) := by decide +kernel
theorem dX5_sale_23 : decode cX5_sale 23 = .ok (.aload_n 0, 1) := by decide +kernel
theorem dX5_sale_24 : decode cX5_sale 24 = .ok (.aload_n 2, 1) := by decide +kernel
theorem dX5_sale_25 : decode cX5_sale 25 = .ok (.invokevirtual 226, 3) := by decide +kernel
theorem dX5_sale_28 : decode cX5_sale 28 = .ok (.putfield 56, 3) := by decide +kernel
theorem dX5_sale_31 : decode cX5_sale 31 = .ok (.aload_n 0, 1) := by decide +kernel
theorem dX5_sale_32 : decode cX5_sale 32 = .ok (.aload_n 2, 1) := by decide +kernel
theorem dX5_sale_33 : decode cX5_sale 33 = .ok (.invokevirtual 230, 3) := by decide +kernel
theorem dX5_sale_36 : decode cX5_sale 36 = .ok (.ireturn, 1) := by decide +kernel
set_option maxRecDepth 20000 in
theorem ggX5_meanPrice_Jx4a65c_size_8abf5 : GoodIn wsX5_meanPrice wsJx4a65c_size_8abf5 := goodIn_r _ [8, 9, 86, 87, 88] (by decide +kernel) (by decide +kernel)
set_option maxRecDepth 20000 in
theorem gX5_meanPrice_Jx4a65c_size_8abf5_f107Jx4a65c : GoodIn wsX5_meanPrice (va_wsF RX5 107 RJx4a65c ⟨"java/util/List", "size", "()I"⟩ yJx4a65c_size_8abf5 wsJx4a65c_size_8abf5) := goodIn_app (goodIn_of _ (by decide +kernel)) ggX5_meanPrice_Jx4a65c_size_8abf5
set_option maxRecDepth 20000 in
theorem ggX5_meanPrice_Jx4a65c_get_915e3 : GoodIn wsX5_meanPrice wsJx4a65c_get_915e3 := goodIn_r _ [13, 9, 14, 15, 16, 17, 18, 19, 20, 21, 22, 23, 24, 7, 25, 26, 86, 87, 88] (by decide +kernel) (by decide +kernel)
set_option maxRecDepth 20000 in
theorem gX5_meanPrice_Jx4a65c_get_915e3_f175Jx4a65c : GoodIn wsX5_meanPrice (va_wsF RX5 175 RJx4a65c ⟨"java/util/List", "get", "(I)Ljava/lang/Object;"⟩ yJx4a65c_get_915e3 wsJx4a65c_get_915e3) := goodIn_app (goodIn_of _ (by decide +kernel)) ggX5_meanPrice_Jx4a65c_get_915e3
set_option maxRecDepth 20000 in
theorem ggX5_meanPrice_X3_isHome : GoodIn wsX5_meanPrice wsX3_isHome := goodIn_r _ [31, 32, 72, 73, 74, 75, 76, 77, 78, 79, 80, 81, 82, 83, 84, 85] (by decide +kernel) (by decide +kernel)
set_option maxRecDepth 20000 in
theorem gX5_meanPrice_X3_isHome : GoodIn wsX5_meanPrice (wsV RX5 222 RX3 yX3_isHome wsX3_isHome) := goodIn_app (goodIn_of _ (by decide +kernel)) ggX5_meanPrice_X3_isHome
set_option maxRecDepth 20000 in
theorem ggX5_meanPrice_X5_takings : GoodIn wsX5_meanPrice wsX5_takings := goodIn_r _ [37, 3, 38, 39, 40, 36, 41, 1, 2, 42, 43, 44, 45, 46, 47, 4, 5, 6, 7, 8, 9, 10, 11, 12, 13, 14, 15, 16, 17, 18, 19, 20, 21, 22, 23, 24, 25, 26, 27, 28, 29, 30, 31, 32, 48, 49, 50, 51, 52, 53, 72, 73, 74, 75, 76, 77, 78, 79, 80, 81, 82, 83, 84, 85, 60, 61, 62, 63, 64, 65, 66, 67, 68, 69, 70, 71, 86, 87, 88] (by decide +kernel) (by decide +kernel)
set_option maxRecDepth 20000 in
theorem gX5_meanPrice_X5_takings : GoodIn wsX5_meanPrice (wsV RX5 226 RX5 yX5_takings wsX5_takings) := goodIn_app (goodIn_of _ (by decide +kernel)) ggX5_meanPrice_X5_takings
set_option maxRecDepth 20000 in
theorem ggX5_meanPrice_X5_found : GoodIn wsX5_meanPrice wsX5_found := goodIn_r _ [57, 58, 59, 60, 61, 62, 63, 64, 65, 66, 67, 68, 69, 70, 71] (by decide +kernel) (by decide +kernel)
set_option maxRecDepth 20000 in
theorem gX5_meanPrice_X5_found : GoodIn wsX5_meanPrice (wsV RX5 79 RX5 yX5_found wsX5_found) := goodIn_app (goodIn_of _ (by decide +kernel)) ggX5_meanPrice_X5_found
theorem dX5_meanPrice_0 : decode cX5_meanPrice 0 = .ok (.lconst 0, 1) := by decide +kernel
theorem dX5_meanPrice_1 : decode cX5_meanPrice 1 = .ok (.lstore_n 1, 1) := by decide +kernel
theorem dX5_meanPrice_2 : decode cX5_meanPrice 2 = .ok (.lconst 0, 1) := by decide +kernel
theorem dX5_meanPrice_3 : decode cX5_meanPrice 3 = .ok (.lstore_n 3, 1) := by decide +kernel
theorem dX5_meanPrice_4 : decode cX5_meanPrice 4 = .ok (.iconst 0, 1) := by decide +kernel
theorem dX5_meanPrice_5 : decode cX5_meanPrice 5 = .ok (.istore 5, 2) := by decide +kernel
theorem dX5_meanPrice_7 : decode cX5_meanPrice 7 = .ok (.iload 5, 2) := by decide +kernel
theorem dX5_meanPrice_9 : decode cX5_meanPrice 9 = .ok (.aload_n 0, 1) := by decide +kernel
theorem dX5_meanPrice_10 : decode cX5_meanPrice 10 = .ok (.getfield 26, 3) := by decide +kernel
theorem dX5_meanPrice_13 : decode cX5_meanPrice 13 = .ok (.invokeinterface 107 1, 5) := by decide +kernel
theorem dX5_meanPrice_18 : decode cX5_meanPrice 18 = .ok (.if_icmp .ge 51, 3) := by decide +kernel
theorem dX5_meanPrice_21 : decode cX5_meanPrice 21 = .ok (.aload_n 0, 1) := by decide +kernel
theorem dX5_meanPrice_22 : decode cX5_meanPrice 22 = .ok (.getfield 26, 3) := by decide +kernel
theorem dX5_meanPrice_25 : decode cX5_meanPrice 25 = .ok (.iload 5, 2) := by decide +kernel
theorem dX5_meanPrice_27 : decode cX5_meanPrice 27 = .ok (.invokeinterface 175 2, 5) := by decide +kernel
theorem dX5_meanPrice_32 : decode cX5_meanPrice 32 = .ok (.checkcast 113, 3) := by decide +kernel
theorem dX5_meanPrice_35 : decode cX5_meanPrice 35 = .ok (.astore 6, 2) := by decide +kernel
theorem dX5_meanPrice_37 : decode cX5_meanPrice 37 = .ok (.aload 6, 2) := by decide +kernel
theorem dX5_meanPrice_39 : decode cX5_meanPrice 39 = .ok (.invokevirtual 222, 3) := by decide +kernel
theorem dX5_meanPrice_42 : decode cX5_meanPrice 42 = .ok (.ifCond .eq 21, 3) := by decide +kernel
theorem dX5_meanPrice_45 : decode cX5_meanPrice 45 = .ok (.lload_n 1, 1) := by decide +kernel
theorem dX5_meanPrice_46 : decode cX5_meanPrice 46 = .ok (.aload_n 0, 1) := by decide +kernel
theorem dX5_meanPrice_47 : decode cX5_meanPrice 47 = .ok (.aload 6, 2) := by decide +kernel
theorem dX5_meanPrice_49 : decode cX5_meanPrice 49 = .ok (.invokevirtual 226, 3) := by decide +kernel
theorem dX5_meanPrice_52 : decode cX5_meanPrice 52 = .ok (.ladd, 1) := by decide +kernel
theorem dX5_meanPrice_53 : decode cX5_meanPrice 53 = .ok (.lstore_n 1, 1) := by decide +kernel
theorem dX5_meanPrice_54 : decode cX5_meanPrice 54 = .ok (.lload_n 3, 1) := by decide +kernel
theorem dX5_meanPrice_55 : decode cX5_meanPrice 55 = .ok (.aload 6, 2) := by decide +kernel
theorem dX5_meanPrice_57 : decode cX5_meanPrice 57 = .ok (.getfield 147, 3) := by decide +kernel
theorem dX5_meanPrice_60 : decode cX5_meanPrice 60 = .ok (.i2l, 1) := by decide +kernel
theorem dX5_meanPrice_61 : decode cX5_meanPrice 61 = .ok (.ladd, 1) := by decide +kernel
theorem dX5_meanPrice_62 : decode cX5_meanPrice 62 = .ok (.lstore_n 3, 1) := by decide +kernel
theorem dX5_meanPrice_63 : decode cX5_meanPrice 63 = .ok (.iinc 5 1, 3) := by decide +kernel
theorem dX5_meanPrice_66 : decode cX5_meanPrice 66 = .ok (.goto (-59), 3) := by decide +kernel
theorem dX5_meanPrice_69 : decode cX5_meanPrice 69 = .ok (.lload_n 3, 1) := by decide +kernel
theorem dX5_meanPrice_70 : decode cX5_meanPrice 70 = .ok (.lconst 0, 1) := by decide +kernel
theorem dX5_meanPrice_71 : decode cX5_meanPrice 71 = .ok (.lcmp, 1) := by decide +kernel
theorem dX5_meanPrice_72 : decode cX5_meanPrice 72 = .ok (.ifCond .ne 9, 3) := by decide +kernel
theorem dX5_meanPrice_75 : decode cX5_meanPrice 75 = .ok (.aload_n 0, 1) := by decide +kernel
theorem dX5_meanPrice_76 : decode cX5_meanPrice 76 = .ok (.iconst 4, 1) := by decide +kernel
theorem dX5_meanPrice_77 : decode cX5_meanPrice 77 = .ok (.invokevirtual 79, 3) := by decide +kernel
theorem dX5_meanPrice_80 : decode cX5_meanPrice 80 = .ok (.ireturn, 1) := by decide +kernel
theorem dX5_meanPrice_81 : decode cX5_meanPrice 81 = .ok (.lload_n 1, 1) := by decide +kernel
theorem dX5_meanPrice_82 : decode cX5_meanPrice 82 = .ok (.lload_n 3, 1) := by decide +kernel
theorem dX5_meanPrice_83 : decode cX5_meanPrice 83 = .ok (.ldiv, 1) := by decide +kernel
theorem dX5_meanPrice_84 : decode cX5_meanPrice 84 = .ok (.l2i, 1) := by decide +kernel
theorem dX5_meanPrice_85 : decode cX5_meanPrice 85 = .ok (.ireturn, 1) := by decide +kernel
theorem dX5_asked_0 : decode cX5_asked 0 = .ok (.aload_n 0, 1) := by decide +kernel
theorem dX5_asked_1 : decode cX5_asked 1 = .ok (.getfield 56, 3) := by decide +kernel
theorem dX5_asked_4 : decode cX5_asked 4 = .ok (.lreturn, 1) := by decide +kernel
set_option maxRecDepth 20000 in
theorem ggX5_count_Jx4a65c_size_8abf5 : GoodIn wsX5_count wsJx4a65c_size_8abf5 := goodIn_r _ [9, 10, 58, 59, 60] (by decide +kernel) (by decide +kernel)
set_option maxRecDepth 20000 in
theorem gX5_count_Jx4a65c_size_8abf5_f107Jx4a65c : GoodIn wsX5_count (va_wsF RX5 107 RJx4a65c ⟨"java/util/List", "size", "()I"⟩ yJx4a65c_size_8abf5 wsJx4a65c_size_8abf5) := goodIn_app (goodIn_of _ (by decide +kernel)) ggX5_count_Jx4a65c_size_8abf5
set_option maxRecDepth 20000 in
theorem ggX5_count_X2_chartsThere : GoodIn wsX5_count wsX2_chartsThere := goodIn_r _ [15, 16, 61, 62, 63] (by decide +kernel) (by decide +kernel)
set_option maxRecDepth 20000 in
theorem gX5_count_X2_chartsThere : GoodIn wsX5_count (wsV RX5 234 RX2 yX2_chartsThere wsX2_chartsThere) := goodIn_app (goodIn_of _ (by decide +kernel)) ggX5_count_X2_chartsThere
set_option maxRecDepth 20000 in
theorem ggX5_count_X5_shipsHome : GoodIn wsX5_count wsX5_shipsHome := goodIn_r _ [21, 1, 22, 5, 6, 7, 8, 9, 10, 23, 24, 25, 26, 27, 28, 29, 30, 31, 32, 33, 34, 35, 36, 37, 38, 39, 40, 41, 42, 43, 44, 45, 46, 47, 48, 49, 50, 51, 52, 53, 54, 55, 56, 57, 58, 59, 60, 64, 65, 66, 67, 68, 69, 70, 71, 72, 73, 74, 75, 76, 77] (by decide +kernel) (by decide +kernel)
set_option maxRecDepth 20000 in
theorem gX5_count_X5_shipsHome : GoodIn wsX5_count (wsV RX5 172 RX5 yX5_shipsHome wsX5_shipsHome) := goodIn_app (goodIn_of _ (by decide +kernel)) ggX5_count_X5_shipsHome
theorem dX5_count_0 : decode cX5_count 0 = .ok (.iload_n 1, 1) := by decide +kernel
theorem dX5_count_1 : decode cX5_count 1 = .ok (.tableswitch 68 0 4 #[35, 45, 50, 58, 63], 35) := by decide +kernel
theorem dX5_count_36 : decode cX5_count 36 = .ok (.aload_n 0, 1) := by decide +kernel
theorem dX5_count_37 : decode cX5_count 37 = .ok (.getfield 26, 3) := by decide +kernel
theorem dX5_count_40 : decode cX5_count 40 = .ok (.invokeinterface 107 1, 5) := by decide +kernel
theorem dX5_count_45 : decode cX5_count 45 = .ok (.ireturn, 1) := by decide +kernel
theorem dX5_count_46 : decode cX5_count 46 = .ok (.aload_n 0, 1) := by decide +kernel
theorem dX5_count_47 : decode cX5_count 47 = .ok (.getfield 38, 3) := by decide +kernel
theorem dX5_count_50 : decode cX5_count 50 = .ok (.ireturn, 1) := by decide +kernel
theorem dX5_count_51 : decode cX5_count 51 = .ok (.aload_n 0, 1) := by decide +kernel
theorem dX5_count_52 : decode cX5_count 52 = .ok (.getfield 10, 3) := by decide +kernel
theorem dX5_count_55 : decode cX5_count 55 = .ok (.invokevirtual 234, 3) := by decide +kernel
theorem dX5_count_58 : decode cX5_count 58 = .ok (.ireturn, 1) := by decide +kernel
theorem dX5_count_59 : decode cX5_count 59 = .ok (.aload_n 0, 1) := by decide +kernel
theorem dX5_count_60 : decode cX5_count 60 = .ok (.getfield 47, 3) := by decide +kernel
theorem dX5_count_63 : decode cX5_count 63 = .ok (.ireturn, 1) := by decide +kernel
theorem dX5_count_64 : decode cX5_count 64 = .ok (.aload_n 0, 1) := by decide +kernel
theorem dX5_count_65 : decode cX5_count 65 = .ok (.invokevirtual 172, 3) := by decide +kernel
theorem dX5_count_68 : decode cX5_count 68 = .ok (.ireturn, 1) := by decide +kernel
theorem dX5_count_69 : decode cX5_count 69 = .ok (.iconst (-1), 1) := by decide +kernel
theorem dX5_count_70 : decode cX5_count 70 = .ok (.ireturn, 1) := by decide +kernel
theorem dX5_finding_0 : decode cX5_finding 0 = .ok (.aload_n 0, 1) := by decide +kernel
theorem dX5_finding_1 : decode cX5_finding 1 = .ok (.getfield 34, 3) := by decide +kernel
theorem dX5_finding_4 : decode cX5_finding 4 = .ok (.ireturn, 1) := by decide +kernel
theorem dX5_findings_0 : decode cX5_findings 0 = .ok (.iload_n 1, 1) := by decide +kernel
theorem dX5_findings_1 : decode cX5_findings 1 = .ok (.iconst 1, 1) := by decide +kernel
theorem dX5_findings_2 : decode cX5_findings 2 = .ok (.if_icmp .lt 8, 3) := by decide +kernel
theorem dX5_findings_5 : decode cX5_findings 5 = .ok (.iload_n 1, 1) := by decide +kernel
theorem dX5_findings_6 : decode cX5_findings 6 = .ok (.iconst 5, 1) := by decide +kernel
theorem dX5_findings_7 : decode cX5_findings 7 = .ok (.if_icmp .le 5, 3) := by decide +kernel
theorem dX5_findings_10 : decode cX5_findings 10 = .ok (.iconst (-1), 1) := by decide +kernel
theorem dX5_findings_11 : decode cX5_findings 11 = .ok (.ireturn, 1) := by decide +kernel
theorem dX5_findings_12 : decode cX5_findings 12 = .ok (.aload_n 0, 1) := by decide +kernel
theorem dX5_findings_13 : decode cX5_findings 13 = .ok (.getfield 30, 3) := by decide +kernel
theorem dX5_findings_16 : decode cX5_findings 16 = .ok (.iload_n 1, 1) := by decide +kernel
theorem dX5_findings_17 : decode cX5_findings 17 = .ok (.iaload, 1) := by decide +kernel
theorem dX5_findings_18 : decode cX5_findings 18 = .ok (.ireturn, 1) := by decide +kernel
set_option maxRecDepth 20000 in
theorem ggX5_digest_X5_count : GoodIn wsX5_digest wsX5_count := goodIn_r _ [9, 3, 10, 4, 11, 12, 13, 14, 15, 16, 17, 18, 19, 20, 21, 22, 23, 24, 25, 26, 8, 27, 28, 29, 30, 31, 32, 33, 34, 35, 36, 37, 38, 39, 40, 41, 42, 43, 44, 45, 46, 47, 48, 49, 50, 51, 83, 84, 85, 86, 87, 88, 89, 90, 91, 92, 93, 94, 95, 96, 97, 98, 99, 100, 101, 102, 103, 104, 105, 106, 107, 108, 109, 110, 111, 112, 113, 114] (by decide +kernel) (by decide +kernel)
set_option maxRecDepth 20000 in
theorem gX5_digest_X5_count : GoodIn wsX5_digest (wsV RX5 241 RX5 yX5_count wsX5_count) := goodIn_app (goodIn_of _ (by decide +kernel)) ggX5_digest_X5_count
set_option maxRecDepth 20000 in
theorem ggX5_digest_Jx4a65c_size_8abf5 : GoodIn wsX5_digest wsJx4a65c_size_8abf5 := goodIn_r _ [16, 17, 95, 96, 97] (by decide +kernel) (by decide +kernel)
set_option maxRecDepth 20000 in
theorem gX5_digest_Jx4a65c_size_8abf5_f107Jx4a65c : GoodIn wsX5_digest (va_wsF RX5 107 RJx4a65c ⟨"java/util/List", "size", "()I"⟩ yJx4a65c_size_8abf5 wsJx4a65c_size_8abf5) := goodIn_app (goodIn_of _ (by decide +kernel)) ggX5_digest_Jx4a65c_size_8abf5
set_option maxRecDepth 20000 in
theorem ggX5_digest_X5_told : GoodIn wsX5_digest wsX5_told := goodIn_r _ [55, 56, 57, 58, 59, 60, 61, 62, 63, 64, 65, 8, 66, 3, 28, 12, 13, 14, 15, 16, 17, 29, 30, 31, 32, 33, 34, 35, 36, 37, 38, 39, 40, 41, 42, 43, 44, 45, 101, 102, 103, 104, 105, 106, 107, 108, 109, 110, 111, 112, 113, 114, 83, 84, 85, 86, 87, 88, 89, 90, 91, 92, 93, 94, 95, 96, 97] (by decide +kernel) (by decide +kernel)
set_option maxRecDepth 20000 in
theorem gX5_digest_X5_told : GoodIn wsX5_digest (wsV RX5 244 RX5 yX5_told wsX5_told) := goodIn_app (goodIn_of _ (by decide +kernel)) ggX5_digest_X5_told
set_option maxRecDepth 20000 in
theorem ggX5_digest_X2_digestChart : GoodIn wsX5_digest wsX2_digestChart := goodIn_r _ [70, 71, 72, 73, 74, 21, 75, 23, 76, 8, 77, 78, 79, 80, 81, 82, 98, 99, 100] (by decide +kernel) (by decide +kernel)
set_option maxRecDepth 20000 in
theorem gX5_digest_X2_digestChart : GoodIn wsX5_digest (wsV RX5 247 RX2 yX2_digestChart wsX2_digestChart) := goodIn_app (goodIn_of _ (by decide +kernel)) ggX5_digest_X2_digestChart
theorem dX5_digest_0 : decode cX5_digest 0 = .ok (.ldc2_w 237, 3) := by decide +kernel
theorem dX5_digest_3 : decode cX5_digest 3 = .ok (.lstore_n 1, 1) := by decide +kernel
theorem dX5_digest_4 : decode cX5_digest 4 = .ok (.iconst 0, 1) := by decide +kernel
theorem dX5_digest_5 : decode cX5_digest 5 = .ok (.istore_n 3, 1) := by decide +kernel
theorem dX5_digest_6 : decode cX5_digest 6 = .ok (.iload_n 3, 1) := by decide +kernel
theorem dX5_digest_7 : decode cX5_digest 7 = .ok (.iconst 4, 1) := by decide +kernel
theorem dX5_digest_8 : decode cX5_digest 8 = .ok (.if_icmp .gt 22, 3) := by decide +kernel
theorem dX5_digest_11 : decode cX5_digest 11 = .ok (.ldc2_w 239, 3) := by decide +kernel
theorem dX5_digest_14 : decode cX5_digest 14 = .ok (.lload_n 1, 1) := by decide +kernel
theorem dX5_digest_15 : decode cX5_digest 15 = .ok (.lmul, 1) := by decide +kernel
theorem dX5_digest_16 : decode cX5_digest 16 = .ok (.aload_n 0, 1) := by decide +kernel
theorem dX5_digest_17 : decode cX5_digest 17 = .ok (.iload_n 3, 1) := by decide +kernel
theorem dX5_digest_18 : decode cX5_digest 18 = .ok (.invokevirtual 241, 3) := by decide +kernel
theorem dX5_digest_21 : decode cX5_digest 21 = .ok (.i2l, 1) := by decide +kernel
theorem dX5_digest_22 : decode cX5_digest 22 = .ok (.ladd, 1) := by decide +kernel
theorem dX5_digest_23 : decode cX5_digest 23 = .ok (.lstore_n 1, 1) := by decide +kernel
theorem dX5_digest_24 : decode cX5_digest 24 = .ok (.iinc 3 1, 3) := by decide +kernel
theorem dX5_digest_27 : decode cX5_digest 27 = .ok (.goto (-21), 3) := by decide +kernel
theorem dX5_digest_30 : decode cX5_digest 30 = .ok (.iconst 0, 1) := by decide +kernel
theorem dX5_digest_31 : decode cX5_digest 31 = .ok (.istore_n 3, 1) := by decide +kernel
theorem dX5_digest_32 : decode cX5_digest 32 = .ok (.iload_n 3, 1) := by decide +kernel
theorem dX5_digest_33 : decode cX5_digest 33 = .ok (.aload_n 0, 1) := by decide +kernel
theorem dX5_digest_34 : decode cX5_digest 34 = .ok (.getfield 26, 3) := by decide +kernel
theorem dX5_digest_37 : decode cX5_digest 37 = .ok (.invokeinterface 107 1, 5) := by decide +kernel
theorem dX5_digest_42 : decode cX5_digest 42 = .ok (.if_icmp .ge 40, 3) := by decide +kernel
theorem dX5_digest_45 : decode cX5_digest 45 = .ok (.iconst 0, 1) := by decide +kernel
theorem dX5_digest_46 : decode cX5_digest 46 = .ok (.istore 4, 2) := by decide +kernel
theorem dX5_digest_48 : decode cX5_digest 48 = .ok (.iload 4, 2) := by decide +kernel
theorem dX5_digest_50 : decode cX5_digest 50 = .ok (.bipush 6, 2) := by decide +kernel
theorem dX5_digest_52 : decode cX5_digest 52 = .ok (.if_icmp .gt 24, 3) := by decide +kernel
theorem dX5_digest_55 : decode cX5_digest 55 = .ok (.ldc2_w 239, 3) := by decide +kernel
theorem dX5_digest_58 : decode cX5_digest 58 = .ok (.lload_n 1, 1) := by decide +kernel
theorem dX5_digest_59 : decode cX5_digest 59 = .ok (.lmul, 1) := by decide +kernel
theorem dX5_digest_60 : decode cX5_digest 60 = .ok (.aload_n 0, 1) := by decide +kernel
theorem dX5_digest_61 : decode cX5_digest 61 = .ok (.iload_n 3, 1) := by decide +kernel
theorem dX5_digest_62 : decode cX5_digest 62 = .ok (.iload 4, 2) := by decide +kernel
theorem dX5_digest_64 : decode cX5_digest 64 = .ok (.invokevirtual 244, 3) := by decide +kernel
theorem dX5_digest_67 : decode cX5_digest 67 = .ok (.i2l, 1) := by decide +kernel
theorem dX5_digest_68 : decode cX5_digest 68 = .ok (.ladd, 1) := by decide +kernel
theorem dX5_digest_69 : decode cX5_digest 69 = .ok (.lstore_n 1, 1) := by decide +kernel
theorem dX5_digest_70 : decode cX5_digest 70 = .ok (.iinc 4 1, 3) := by decide +kernel
theorem dX5_digest_73 : decode cX5_digest 73 = .ok (.goto (-25), 3) := by decide +kernel
theorem dX5_digest_76 : decode cX5_digest 76 = .ok (.iinc 3 1, 3) := by decide +kernel
theorem dX5_digest_79 : decode cX5_digest 79 = .ok (.goto (-47), 3) := by decide +kernel
theorem dX5_digest_82 : decode cX5_digest 82 = .ok (.iconst 0, 1) := by decide +kernel
theorem dX5_digest_83 : decode cX5_digest 83 = .ok (.istore_n 3, 1) := by decide +kernel
theorem dX5_digest_84 : decode cX5_digest 84 = .ok (.iload_n 3, 1) := by decide +kernel
theorem dX5_digest_85 : decode cX5_digest 85 = .ok (.bipush 12, 2) := by decide +kernel
theorem dX5_digest_87 : decode cX5_digest 87 = .ok (.if_icmp .ge 19, 3) := by decide +kernel
theorem dX5_digest_90 : decode cX5_digest 90 = .ok (.aload_n 0, 1) := by decide +kernel
theorem dX5_digest_91 : decode cX5_digest 91 = .ok (.getfield 10, 3) := by decide +kernel
theorem dX5_digest_94 : decode cX5_digest 94 = .ok (.iload_n 3, 1) := by decide +kernel
theorem dX5_digest_95 : decode cX5_digest 95 = .ok (.lload_n 1, 1) := by decide +kernel
theorem dX5_digest_96 : decode cX5_digest 96 = .ok (.invokevirtual 247, 3) := by decide +kernel
theorem dX5_digest_99 : decode cX5_digest 99 = .ok (.lstore_n 1, 1) := by decide +kernel
theorem dX5_digest_100 : decode cX5_digest 100 = .ok (.iinc 3 1, 3) := by decide +kernel
theorem dX5_digest_103 : decode cX5_digest 103 = .ok (.goto (-19), 3) := by decide +kernel
theorem dX5_digest_106 : decode cX5_digest 106 = .ok (.lload_n 1, 1) := by decide +kernel
theorem dX5_digest_107 : decode cX5_digest 107 = .ok (.lreturn, 1) := by decide +kernel
theorem dX5_outside_0 : decode cX5_outside 0 = .ok (.iload_n 0, 1) := by decide +kernel
theorem dX5_outside_1 : decode cX5_outside 1 = .ok (.ifCond .lt 8, 3) := by decide +kernel
theorem dX5_outside_4 : decode cX5_outside 4 = .ok (.iload_n 0, 1) := by decide +kernel
theorem dX5_outside_5 : decode cX5_outside 5 = .ok (.iload_n 1, 1) := by decide +kernel
theorem dX5_outside_6 : decode cX5_outside 6 = .ok (.if_icmp .le 7, 3) := by decide +kernel
theorem dX5_outside_9 : decode cX5_outside 9 = .ok (.iconst 1, 1) := by decide +kernel
theorem dX5_outside_10 : decode cX5_outside 10 = .ok (.goto 4, 3) := by decide +kernel
theorem dX5_outside_13 : decode cX5_outside 13 = .ok (.iconst 0, 1) := by decide +kernel
theorem dX5_outside_14 : decode cX5_outside 14 = .ok (.ireturn, 1) := by decide +kernel
set_option maxRecDepth 20000 in
theorem ggX5_isNoSpan_X5_outside : GoodIn wsX5_isNoSpan wsX5_outside := goodIn_r _ [4] (by decide +kernel) (by decide +kernel)
set_option maxRecDepth 20000 in
theorem gX5_isNoSpan_X5_outside : GoodIn wsX5_isNoSpan (va_wsS RX5 60 yX5_outside wsX5_outside) := goodIn_app (goodIn_of _ (by decide +kernel)) ggX5_isNoSpan_X5_outside
theorem dX5_isNoSpan_0 : decode cX5_isNoSpan 0 = .ok (.iload_n 0, 1) := by decide +kernel
theorem dX5_isNoSpan_1 : decode cX5_isNoSpan 1 = .ok (.iload_n 2, 1) := by decide +kernel
theorem dX5_isNoSpan_2 : decode cX5_isNoSpan 2 = .ok (.invokestatic 60, 3) := by decide +kernel
theorem dX5_isNoSpan_5 : decode cX5_isNoSpan 5 = .ok (.ifCond .ne 16, 3) := by decide +kernel
theorem dX5_isNoSpan_8 : decode cX5_isNoSpan 8 = .ok (.iload_n 1, 1) := by decide +kernel
theorem dX5_isNoSpan_9 : decode cX5_isNoSpan 9 = .ok (.iload_n 2, 1) := by decide +kernel
theorem dX5_isNoSpan_10 : decode cX5_isNoSpan 10 = .ok (.invokestatic 60, 3) := by decide +kernel
theorem dX5_isNoSpan_13 : decode cX5_isNoSpan 13 = .ok (.ifCond .ne 8, 3) := by decide +kernel
theorem dX5_isNoSpan_16 : decode cX5_isNoSpan 16 = .ok (.iload_n 0, 1) := by decide +kernel
theorem dX5_isNoSpan_17 : decode cX5_isNoSpan 17 = .ok (.iload_n 1, 1) := by decide +kernel
theorem dX5_isNoSpan_18 : decode cX5_isNoSpan 18 = .ok (.if_icmp .le 7, 3) := by decide +kernel
theorem dX5_isNoSpan_21 : decode cX5_isNoSpan 21 = .ok (.iconst 1, 1) := by decide +kernel
theorem dX5_isNoSpan_22 : decode cX5_isNoSpan 22 = .ok (.goto 4, 3) := by decide +kernel
theorem dX5_isNoSpan_25 : decode cX5_isNoSpan 25 = .ok (.iconst 0, 1) := by decide +kernel
theorem dX5_isNoSpan_26 : decode cX5_isNoSpan 26 = .ok (.ireturn, 1) := by decide +kernel
set_option maxRecDepth 20000 in
theorem ggX5_isNoWater_X5_outside : GoodIn wsX5_isNoWater wsX5_outside := goodIn_r _ [5] (by decide +kernel) (by decide +kernel)
set_option maxRecDepth 20000 in
theorem gX5_isNoWater_X5_outside : GoodIn wsX5_isNoWater (va_wsS RX5 60 yX5_outside wsX5_outside) := goodIn_app (goodIn_of _ (by decide +kernel)) ggX5_isNoWater_X5_outside
set_option maxRecDepth 20000 in
theorem ggX5_isNoWater_X2_isLand : GoodIn wsX5_isNoWater wsX2_isLand := goodIn_r _ [10, 11, 3, 4, 5, 24, 25, 26] (by decide +kernel) (by decide +kernel)
set_option maxRecDepth 20000 in
theorem gX5_isNoWater_X2_isLand : GoodIn wsX5_isNoWater (wsV RX5 64 RX2 yX2_isLand wsX2_isLand) := goodIn_app (goodIn_of _ (by decide +kernel)) ggX5_isNoWater_X2_isLand
theorem dX5_isNoWater_0 : decode cX5_isNoWater 0 = .ok (.iload_n 1, 1) := by decide +kernel
theorem dX5_isNoWater_1 : decode cX5_isNoWater 1 = .ok (.sipush 159, 3) := by decide +kernel
theorem dX5_isNoWater_4 : decode cX5_isNoWater 4 = .ok (.invokestatic 60, 3) := by decide +kernel
theorem dX5_isNoWater_7 : decode cX5_isNoWater 7 = .ok (.ifCond .ne 14, 3) := by decide +kernel
theorem dX5_isNoWater_10 : decode cX5_isNoWater 10 = .ok (.aload_n 0, 1) := by decide +kernel
theorem dX5_isNoWater_11 : decode cX5_isNoWater 11 = .ok (.getfield 10, 3) := by decide +kernel
theorem dX5_isNoWater_14 : decode cX5_isNoWater 14 = .ok (.iload_n 1, 1) := by decide +kernel
theorem dX5_isNoWater_15 : decode cX5_isNoWater 15 = .ok (.invokevirtual 64, 3) := by decide +kernel
theorem dX5_isNoWater_18 : decode cX5_isNoWater 18 = .ok (.ifCond .eq 7, 3) := by decide +kernel
theorem dX5_isNoWater_21 : decode cX5_isNoWater 21 = .ok (.iconst 1, 1) := by decide +kernel
theorem dX5_isNoWater_22 : decode cX5_isNoWater 22 = .ok (.goto 4, 3) := by decide +kernel
theorem dX5_isNoWater_25 : decode cX5_isNoWater 25 = .ok (.iconst 0, 1) := by decide +kernel
theorem dX5_isNoWater_26 : decode cX5_isNoWater 26 = .ok (.ireturn, 1) := by decide +kernel
set_option maxRecDepth 20000 in
theorem ggX5_shipOf_Jx4a65c_size_8abf5 : GoodIn wsX5_shipOf wsJx4a65c_size_8abf5 := goodIn_r _ [7, 8, 38, 39, 40] (by decide +kernel) (by decide +kernel)
set_option maxRecDepth 20000 in
theorem gX5_shipOf_Jx4a65c_size_8abf5_f107Jx4a65c : GoodIn wsX5_shipOf (va_wsF RX5 107 RJx4a65c ⟨"java/util/List", "size", "()I"⟩ yJx4a65c_size_8abf5 wsJx4a65c_size_8abf5) := goodIn_app (goodIn_of _ (by decide +kernel)) ggX5_shipOf_Jx4a65c_size_8abf5
set_option maxRecDepth 20000 in
theorem ggX5_shipOf_Jx4a65c_get_915e3 : GoodIn wsX5_shipOf wsJx4a65c_get_915e3 := goodIn_r _ [12, 8, 13, 14, 15, 16, 17, 18, 19, 20, 21, 22, 23, 6, 24, 25, 38, 39, 40] (by decide +kernel) (by decide +kernel)
set_option maxRecDepth 20000 in
theorem gX5_shipOf_Jx4a65c_get_915e3_f175Jx4a65c : GoodIn wsX5_shipOf (va_wsF RX5 175 RJx4a65c ⟨"java/util/List", "get", "(I)Ljava/lang/Object;"⟩ yJx4a65c_get_915e3 wsJx4a65c_get_915e3) := goodIn_app (goodIn_of _ (by decide +kernel)) ggX5_shipOf_Jx4a65c_get_915e3
theorem dX5_shipOf_0 : decode cX5_shipOf 0 = .ok (.iload_n 1, 1) := by decide +kernel
theorem dX5_shipOf_1 : decode cX5_shipOf 1 = .ok (.ifCond .lt 16, 3) := by decide +kernel
theorem dX5_shipOf_4 : decode cX5_shipOf 4 = .ok (.iload_n 1, 1) := by decide +kernel
theorem dX5_shipOf_5 : decode cX5_shipOf 5 = .ok (.aload_n 0, 1) := by decide +kernel
theorem dX5_shipOf_6 : decode cX5_shipOf 6 = .ok (.getfield 26, 3) := by decide +kernel
theorem dX5_shipOf_9 : decode cX5_shipOf 9 = .ok (.invokeinterface 107 1, 5) := by decide +kernel
theorem dX5_shipOf_14 : decode cX5_shipOf 14 = .ok (.if_icmp .lt 7, 3) := by decide +kernel
theorem dX5_shipOf_17 : decode cX5_shipOf 17 = .ok (.aconst_null, 1) := by decide +kernel
theorem dX5_shipOf_18 : decode cX5_shipOf 18 = .ok (.goto 16, 3) := by decide +kernel
theorem dX5_shipOf_21 : decode cX5_shipOf 21 = .ok (.aload_n 0, 1) := by decide +kernel
theorem dX5_shipOf_22 : decode cX5_shipOf 22 = .ok (.getfield 26, 3) := by decide +kernel
theorem dX5_shipOf_25 : decode cX5_shipOf 25 = .ok (.iload_n 1, 1) := by decide +kernel
theorem dX5_shipOf_26 : decode cX5_shipOf 26 = .ok (.invokeinterface 175 2, 5) := by decide +kernel
theorem dX5_shipOf_31 : decode cX5_shipOf 31 = .ok (.checkcast 113, 3) := by decide +kernel
theorem dX5_shipOf_34 : decode cX5_shipOf 34 = .ok (.areturn, 1) := by decide +kernel
theorem dX5_found_0 : decode cX5_found 0 = .ok (.iload_n 1, 1) := by decide +kernel
theorem dX5_found_1 : decode cX5_found 1 = .ok (.iconst 1, 1) := by decide +kernel
theorem dX5_found_2 : decode cX5_found 2 = .ok (.if_icmp .lt 23, 3) := by decide +kernel
theorem dX5_found_5 : decode cX5_found 5 = .ok (.iload_n 1, 1) := by decide +kernel
theorem dX5_found_6 : decode cX5_found 6 = .ok (.iconst 5, 1) := by decide +kernel
theorem dX5_found_7 : decode cX5_found 7 = .ok (.if_icmp .gt 18, 3) := by decide +kernel
theorem dX5_found_10 : decode cX5_found 10 = .ok (.aload_n 0, 1) := by decide +kernel
theorem dX5_found_11 : decode cX5_found 11 = .ok (.iload_n 1, 1) := by decide +kernel
theorem dX5_found_12 : decode cX5_found 12 = .ok (.putfield 34, 3) := by decide +kernel
theorem dX5_found_15 : decode cX5_found 15 = .ok (.aload_n 0, 1) := by decide +kernel
theorem dX5_found_16 : decode cX5_found 16 = .ok (.getfield 30, 3) := by decide +kernel
theorem dX5_found_19 : decode cX5_found 19 = .ok (.iload_n 1, 1) := by decide +kernel
theorem dX5_found_20 : decode cX5_found 20 = .ok (.dup2, 1) := by decide +kernel
theorem dX5_found_21 : decode cX5_found 21 = .ok (.iaload, 1) := by decide +kernel
theorem dX5_found_22 : decode cX5_found 22 = .ok (.iconst 1, 1) := by decide +kernel
theorem dX5_found_23 : decode cX5_found 23 = .ok (.iadd, 1) := by decide +kernel
theorem dX5_found_24 : decode cX5_found 24 = .ok (.iastore, 1) := by decide +kernel
theorem dX5_found_25 : decode cX5_found 25 = .ok (.bipush (-3), 2) := by decide +kernel
theorem dX5_found_27 : decode cX5_found 27 = .ok (.ireturn, 1) := by decide +kernel
theorem dX5_strengthOf_0 : decode cX5_strengthOf 0 = .ok (.iload_n 0, 1) := by decide +kernel
theorem dX5_strengthOf_1 : decode cX5_strengthOf 1 = .ok (.bipush 10, 2) := by decide +kernel
theorem dX5_strengthOf_3 : decode cX5_strengthOf 3 = .ok (.irem, 1) := by decide +kernel
theorem dX5_strengthOf_4 : decode cX5_strengthOf 4 = .ok (.ireturn, 1) := by decide +kernel
theorem dX5_eighthsBetween_0 : decode cX5_eighthsBetween 0 = .ok (.iload_n 0, 1) := by decide +kernel
theorem dX5_eighthsBetween_1 : decode cX5_eighthsBetween 1 = .ok (.iload_n 1, 1) := by decide +kernel
theorem dX5_eighthsBetween_2 : decode cX5_eighthsBetween 2 = .ok (.isub, 1) := by decide +kernel
theorem dX5_eighthsBetween_3 : decode cX5_eighthsBetween 3 = .ok (.invokestatic 251, 3) := by decide +kernel
theorem dX5_eighthsBetween_6 : decode cX5_eighthsBetween 6 = .ok (.istore_n 2, 1) := by decide +kernel
theorem dX5_eighthsBetween_7 : decode cX5_eighthsBetween 7 = .ok (.iload_n 2, 1) := by decide +kernel
theorem dX5_eighthsBetween_8 : decode cX5_eighthsBetween 8 = .ok (.bipush 8, 2) := by decide +kernel
theorem dX5_eighthsBetween_10 : decode cX5_eighthsBetween 10 = .ok (.iload_n 2, 1) := by decide +kernel
theorem dX5_eighthsBetween_11 : decode cX5_eighthsBetween 11 = .ok (.isub, 1) := by decide +kernel
theorem dX5_eighthsBetween_12 : decode cX5_eighthsBetween 12 = .ok (.invokestatic 256, 3) := by decide +kernel
theorem dX5_eighthsBetween_15 : decode cX5_eighthsBetween 15 = .ok (.ireturn, 1) := by decide +kernel
theorem dX5_needOf_0 : decode cX5_needOf 0 = .ok (.iload_n 0, 1) := by decide +kernel
theorem dX5_needOf_1 : decode cX5_needOf 1 = .ok (.iconst 2, 1) := by decide +kernel
theorem dX5_needOf_2 : decode cX5_needOf 2 = .ok (.irem, 1) := by decide +kernel
theorem dX5_needOf_3 : decode cX5_needOf 3 = .ok (.ifCond .ne 8, 3) := by decide +kernel
theorem dX5_needOf_6 : decode cX5_needOf 6 = .ok (.bipush 60, 2) := by decide +kernel
theorem dX5_needOf_8 : decode cX5_needOf 8 = .ok (.goto 5, 3) := by decide +kernel
theorem dX5_needOf_11 : decode cX5_needOf 11 = .ok (.bipush 85, 2) := by decide +kernel
theorem dX5_needOf_13 : decode cX5_needOf 13 = .ok (.ireturn, 1) := by decide +kernel
set_option maxRecDepth 20000 in
theorem ggX5_monthOf_J9_floorMod_7cf53 : GoodIn wsX5_monthOf wsJ9_floorMod_7cf53 := goodIn_r _ [4] (by decide +kernel) (by decide +kernel)
set_option maxRecDepth 20000 in
theorem gX5_monthOf_J9_floorMod_7cf53 : GoodIn wsX5_monthOf (va_wsS RX5 259 yJ9_floorMod_7cf53 wsJ9_floorMod_7cf53) := goodIn_app (goodIn_of _ (by decide +kernel)) ggX5_monthOf_J9_floorMod_7cf53
theorem dX5_monthOf_0 : decode cX5_monthOf 0 = .ok (.iload_n 0, 1) := by decide +kernel
theorem dX5_monthOf_1 : decode cX5_monthOf 1 = .ok (.sipush 720, 3) := by decide +kernel
theorem dX5_monthOf_4 : decode cX5_monthOf 4 = .ok (.idiv, 1) := by decide +kernel
theorem dX5_monthOf_5 : decode cX5_monthOf 5 = .ok (.bipush 12, 2) := by decide +kernel
theorem dX5_monthOf_7 : decode cX5_monthOf 7 = .ok (.invokestatic 259, 3) := by decide +kernel
theorem dX5_monthOf_10 : decode cX5_monthOf 10 = .ok (.ireturn, 1) := by decide +kernel
set_option maxRecDepth 20000 in
theorem ggX5_entryFrom_J9_floorMod_7cf53 : GoodIn wsX5_entryFrom wsJ9_floorMod_7cf53 := goodIn_r _ [5] (by decide +kernel) (by decide +kernel)
set_option maxRecDepth 20000 in
theorem gX5_entryFrom_J9_floorMod_7cf53 : GoodIn wsX5_entryFrom (va_wsS RX5 259 yJ9_floorMod_7cf53 wsJ9_floorMod_7cf53) := goodIn_app (goodIn_of _ (by decide +kernel)) ggX5_entryFrom_J9_floorMod_7cf53
theorem dX5_entryFrom_0 : decode cX5_entryFrom 0 = .ok (.iload_n 1, 1) := by decide +kernel
theorem dX5_entryFrom_1 : decode cX5_entryFrom 1 = .ok (.aload_n 0, 1) := by decide +kernel
theorem dX5_entryFrom_2 : decode cX5_entryFrom 2 = .ok (.getfield 44, 3) := by decide +kernel
theorem dX5_entryFrom_5 : decode cX5_entryFrom 5 = .ok (.isub, 1) := by decide +kernel
theorem dX5_entryFrom_6 : decode cX5_entryFrom 6 = .ok (.bipush 24, 2) := by decide +kernel
theorem dX5_entryFrom_8 : decode cX5_entryFrom 8 = .ok (.invokestatic 259, 3) := by decide +kernel
theorem dX5_entryFrom_11 : decode cX5_entryFrom 11 = .ok (.istore_n 2, 1) := by decide +kernel
theorem dX5_entryFrom_12 : decode cX5_entryFrom 12 = .ok (.iload_n 2, 1) := by decide +kernel
theorem dX5_entryFrom_13 : decode cX5_entryFrom 13 = .ok (.bipush 6, 2) := by decide +kernel
theorem dX5_entryFrom_15 : decode cX5_entryFrom 15 = .ok (.if_icmp .ge 7, 3) := by decide +kernel
theorem dX5_entryFrom_18 : decode cX5_entryFrom 18 = .ok (.iload_n 1, 1) := by decide +kernel
theorem dX5_entryFrom_19 : decode cX5_entryFrom 19 = .ok (.goto 9, 3) := by decide +kernel
theorem dX5_entryFrom_22 : decode cX5_entryFrom 22 = .ok (.iload_n 1, 1) := by decide +kernel
theorem dX5_entryFrom_23 : decode cX5_entryFrom 23 = .ok (.bipush 24, 2) := by decide +kernel
theorem dX5_entryFrom_25 : decode cX5_entryFrom 25 = .ok (.iadd, 1) := by decide +kernel
theorem dX5_entryFrom_26 : decode cX5_entryFrom 26 = .ok (.iload_n 2, 1) := by decide +kernel
theorem dX5_entryFrom_27 : decode cX5_entryFrom 27 = .ok (.isub, 1) := by decide +kernel
theorem dX5_entryFrom_28 : decode cX5_entryFrom 28 = .ok (.ireturn, 1) := by decide +kernel
set_option maxRecDepth 20000 in
theorem ggX5_sail_X3_isHome : GoodIn wsX5_sail wsX3_isHome := goodIn_r _ [10, 11, 140, 141, 142, 143, 144, 145, 146, 147, 148, 149, 150, 151, 152, 153] (by decide +kernel) (by decide +kernel)
set_option maxRecDepth 20000 in
theorem gX5_sail_X3_isHome : GoodIn wsX5_sail (wsV RX5 222 RX3 yX3_isHome wsX3_isHome) := goodIn_app (goodIn_of _ (by decide +kernel)) ggX5_sail_X3_isHome
set_option maxRecDepth 20000 in
theorem ggX5_sail_X5_monthOf : GoodIn wsX5_sail wsX5_monthOf := goodIn_r _ [15, 16, 17, 18, 19] (by decide +kernel) (by decide +kernel)
set_option maxRecDepth 20000 in
theorem gX5_sail_X5_monthOf : GoodIn wsX5_sail (va_wsS RX5 262 yX5_monthOf wsX5_monthOf) := goodIn_app (goodIn_of _ (by decide +kernel)) ggX5_sail_X5_monthOf
set_option maxRecDepth 20000 in
theorem ggX5_sail_X2_windIn : GoodIn wsX5_sail wsX2_windIn := goodIn_r _ [24, 25, 26, 27, 14, 28, 154, 155, 156] (by decide +kernel) (by decide +kernel)
set_option maxRecDepth 20000 in
theorem gX5_sail_X2_windIn : GoodIn wsX5_sail (wsV RX5 98 RX2 yX2_windIn wsX2_windIn) := goodIn_app (goodIn_of _ (by decide +kernel)) ggX5_sail_X2_windIn
set_option maxRecDepth 20000 in
theorem ggX5_sail_X3_askWay : GoodIn wsX5_sail wsX3_askWay := goodIn_r _ [32, 33, 34, 35, 36, 37, 38, 39, 40, 41, 42, 43, 44, 45, 46, 47, 48, 49, 50, 51, 52, 53, 54, 55, 56, 57, 58, 59, 60, 61, 14, 62, 63, 64, 65, 66, 67, 68, 69, 70, 71, 72, 140, 141, 142, 143, 144, 145, 146, 147, 148, 149, 150, 151, 152, 153, 157, 158, 159, 160, 161, 162, 163, 164, 165] (by decide +kernel) (by decide +kernel)
set_option maxRecDepth 20000 in
theorem gX5_sail_X3_askWay : GoodIn wsX5_sail (wsV RX5 265 RX3 yX3_askWay wsX3_askWay) := goodIn_app (goodIn_of _ (by decide +kernel)) ggX5_sail_X3_askWay
set_option maxRecDepth 20000 in
theorem ggX5_sail_X3_speedIn : GoodIn wsX5_sail wsX3_speedIn := goodIn_r _ [76, 77, 78, 79, 80, 81, 82, 83, 14, 84, 85, 86, 87, 88, 89, 90, 61, 62, 91, 92, 93, 9, 94, 95, 96, 97, 98, 140, 141, 142, 143, 144, 145, 146, 147, 148, 149, 150, 151, 152, 153] (by decide +kernel) (by decide +kernel)
set_option maxRecDepth 20000 in
theorem gX5_sail_X3_speedIn : GoodIn wsX5_sail (wsV RX5 156 RX3 yX3_speedIn wsX3_speedIn) := goodIn_app (goodIn_of _ (by decide +kernel)) ggX5_sail_X3_speedIn
set_option maxRecDepth 20000 in
theorem ggX5_sail_X5_needOf : GoodIn wsX5_sail wsX5_needOf := goodIn_r _ [101] (by decide +kernel) (by decide +kernel)
set_option maxRecDepth 20000 in
theorem gX5_sail_X5_needOf : GoodIn wsX5_sail (va_wsS RX5 268 yX5_needOf wsX5_needOf) := goodIn_app (goodIn_of _ (by decide +kernel)) ggX5_sail_X5_needOf
set_option maxRecDepth 20000 in
theorem ggX5_sail_X5_moveOn : GoodIn wsX5_sail wsX5_moveOn := goodIn_r _ [105, 5, 4, 2, 3, 99, 100, 14, 101, 6, 7, 8, 9, 10, 11, 106, 107, 108, 23, 109, 27, 28, 110, 111, 112, 113, 114, 115, 116, 117, 118, 119, 120, 121, 122, 12, 13, 15, 16, 17, 18, 19, 20, 21, 22, 24, 25, 26, 29, 30, 31, 32, 33, 34, 35, 36, 37, 38, 39, 40, 41, 42, 43, 44, 45, 46, 47, 48, 49, 50, 51, 52, 53, 54, 55, 56, 57, 58, 59, 60, 61, 62, 63, 64, 65, 66, 67, 68, 69, 70, 71, 72, 123, 124, 125, 126, 127, 140, 141, 142, 143, 144, 145, 146, 147, 148, 149, 150, 151, 152, 153, 128, 129, 130, 131, 132, 133, 134, 135, 136, 137, 138, 139, 154, 155, 156, 157, 158, 159, 160, 161, 162, 163, 164, 165] (by decide +kernel) (by decide +kernel)
set_option maxRecDepth 20000 in
theorem gX5_sail_X5_moveOn : GoodIn wsX5_sail (wsV RX5 271 RX5 yX5_moveOn wsX5_moveOn) := goodIn_app (goodIn_of _ (by decide +kernel)) ggX5_sail_X5_moveOn
theorem dX5_sail_0 : decode cX5_sail 0 = .ok (.iconst 0, 1) := by decide +kernel
theorem dX5_sail_1 : decode cX5_sail 1 = .ok (.istore_n 3, 1) := by decide +kernel
theorem dX5_sail_2 : decode cX5_sail 2 = .ok (.aload_n 0, 1) := by decide +kernel
theorem dX5_sail_3 : decode cX5_sail 3 = .ok (.getfield 38, 3) := by decide +kernel
theorem dX5_sail_6 : decode cX5_sail 6 = .ok (.istore 4, 2) := by decide +kernel
theorem dX5_sail_8 : decode cX5_sail 8 = .ok (.iload 4, 2) := by decide +kernel
theorem dX5_sail_10 : decode cX5_sail 10 = .ok (.iload_n 2, 1) := by decide +kernel
theorem dX5_sail_11 : decode cX5_sail 11 = .ok (.if_icmp .ge 135, 3) := by decide +kernel
theorem dX5_sail_14 : decode cX5_sail 14 = .ok (.aload_n 1, 1) := by decide +kernel
theorem dX5_sail_15 : decode cX5_sail 15 = .ok (.invokevirtual 222, 3) := by decide +kernel
theorem dX5_sail_18 : decode cX5_sail 18 = .ok (.ifCond .ne 128, 3) := by decide +kernel
theorem dX5_sail_21 : decode cX5_sail 21 = .ok (.iload 4, 2) := by decide +kernel
theorem dX5_sail_23 : decode cX5_sail 23 = .ok (.aload_n 0, 1) := by decide +kernel
theorem dX5_sail_24 : decode cX5_sail 24 = .ok (.getfield 38, 3) := by decide +kernel
theorem dX5_sail_27 : decode cX5_sail 27 = .ok (.if_icmp .eq 12, 3) := by decide +kernel
theorem dX5_sail_30 : decode cX5_sail 30 = .ok (.iload 4, 2) := by decide +kernel
theorem dX5_sail_32 : decode cX5_sail 32 = .ok (.sipush 720, 3) := by decide +kernel
theorem dX5_sail_35 : decode cX5_sail 35 = .ok (.irem, 1) := by decide +kernel
theorem dX5_sail_36 : decode cX5_sail 36 = .ok (.ifCond .ne 48, 3) := by decide +kernel
theorem dX5_sail_39 : decode cX5_sail 39 = .ok (.aload_n 1, 1) := by decide +kernel
theorem dX5_sail_40 : decode cX5_sail 40 = .ok (.aload_n 0, 1) := by decide +kernel
theorem dX5_sail_41 : decode cX5_sail 41 = .ok (.getfield 10, 3) := by decide +kernel
theorem dX5_sail_44 : decode cX5_sail 44 = .ok (.iload 4, 2) := by decide +kernel
theorem dX5_sail_46 : decode cX5_sail 46 = .ok (.invokestatic 262, 3) := by decide +kernel
theorem dX5_sail_49 : decode cX5_sail 49 = .ok (.aload_n 1, 1) := by decide +kernel
theorem dX5_sail_50 : decode cX5_sail 50 = .ok (.getfield 132, 3) := by decide +kernel
theorem dX5_sail_53 : decode cX5_sail 53 = .ok (.invokevirtual 98, 3) := by decide +kernel
theorem dX5_sail_56 : decode cX5_sail 56 = .ok (.invokevirtual 265, 3) := by decide +kernel
theorem dX5_sail_59 : decode cX5_sail 59 = .ok (.aload_n 1, 1) := by decide +kernel
theorem dX5_sail_60 : decode cX5_sail 60 = .ok (.aload_n 1, 1) := by decide +kernel
theorem dX5_sail_61 : decode cX5_sail 61 = .ok (.getfield 138, 3) := by decide +kernel
theorem dX5_sail_64 : decode cX5_sail 64 = .ok (.aload_n 0, 1) := by decide +kernel
theorem dX5_sail_65 : decode cX5_sail 65 = .ok (.getfield 10, 3) := by decide +kernel
theorem dX5_sail_68 : decode cX5_sail 68 = .ok (.iload 4, 2) := by decide +kernel
theorem dX5_sail_70 : decode cX5_sail 70 = .ok (.invokestatic 262, 3) := by decide +kernel
theorem dX5_sail_73 : decode cX5_sail 73 = .ok (.aload_n 1, 1) := by decide +kernel
theorem dX5_sail_74 : decode cX5_sail 74 = .ok (.getfield 132, 3) := by decide +kernel
theorem dX5_sail_77 : decode cX5_sail 77 = .ok (.invokevirtual 98, 3) := by decide +kernel
theorem dX5_sail_80 : decode cX5_sail 80 = .ok (.invokevirtual 156, 3) := by decide +kernel
theorem dX5_sail_83 : decode cX5_sail 83 = .ok (.istore_n 3, 1) := by decide +kernel
theorem dX5_sail_84 : decode cX5_sail 84 = .ok (.aload_n 1, 1) := by decide +kernel
theorem dX5_sail_85 : decode cX5_sail 85 = .ok (.dup, 1) := by decide +kernel
theorem dX5_sail_86 : decode cX5_sail 86 = .ok (.getfield 135, 3) := by decide +kernel
theorem dX5_sail_89 : decode cX5_sail 89 = .ok (.iload_n 3, 1) := by decide +kernel
theorem dX5_sail_90 : decode cX5_sail 90 = .ok (.iadd, 1) := by decide +kernel
theorem dX5_sail_91 : decode cX5_sail 91 = .ok (.putfield 135, 3) := by decide +kernel
theorem dX5_sail_94 : decode cX5_sail 94 = .ok (.aload_n 1, 1) := by decide +kernel
theorem dX5_sail_95 : decode cX5_sail 95 = .ok (.getfield 135, 3) := by decide +kernel
theorem dX5_sail_98 : decode cX5_sail 98 = .ok (.aload_n 1, 1) := by decide +kernel
theorem dX5_sail_99 : decode cX5_sail 99 = .ok (.getfield 138, 3) := by decide +kernel
theorem dX5_sail_102 : decode cX5_sail 102 = .ok (.invokestatic 268, 3) := by decide +kernel
theorem dX5_sail_105 : decode cX5_sail 105 = .ok (.if_icmp .lt 35, 3) := by decide +kernel
theorem dX5_sail_108 : decode cX5_sail 108 = .ok (.aload_n 0, 1) := by decide +kernel
theorem dX5_sail_109 : decode cX5_sail 109 = .ok (.aload_n 1, 1) := by decide +kernel
theorem dX5_sail_110 : decode cX5_sail 110 = .ok (.iload 4, 2) := by decide +kernel
theorem dX5_sail_112 : decode cX5_sail 112 = .ok (.invokevirtual 271, 3) := by decide +kernel
theorem dX5_sail_115 : decode cX5_sail 115 = .ok (.aload_n 1, 1) := by decide +kernel
theorem dX5_sail_116 : decode cX5_sail 116 = .ok (.aload_n 1, 1) := by decide +kernel
theorem dX5_sail_117 : decode cX5_sail 117 = .ok (.getfield 138, 3) := by decide +kernel
theorem dX5_sail_120 : decode cX5_sail 120 = .ok (.aload_n 0, 1) := by decide +kernel
theorem dX5_sail_121 : decode cX5_sail 121 = .ok (.getfield 10, 3) := by decide +kernel
theorem dX5_sail_124 : decode cX5_sail 124 = .ok (.iload 4, 2) := by decide +kernel
theorem dX5_sail_126 : decode cX5_sail 126 = .ok (.invokestatic 262, 3) := by decide +kernel
theorem dX5_sail_129 : decode cX5_sail 129 = .ok (.aload_n 1, 1) := by decide +kernel
theorem dX5_sail_130 : decode cX5_sail 130 = .ok (.getfield 132, 3) := by decide +kernel
theorem dX5_sail_133 : decode cX5_sail 133 = .ok (.invokevirtual 98, 3) := by decide +kernel
theorem dX5_sail_136 : decode cX5_sail 136 = .ok (.invokevirtual 156, 3) := by decide +kernel
theorem dX5_sail_139 : decode cX5_sail 139 = .ok (.istore_n 3, 1) := by decide +kernel
theorem dX5_sail_140 : decode cX5_sail 140 = .ok (.iinc 4 1, 3) := by decide +kernel
theorem dX5_sail_143 : decode cX5_sail 143 = .ok (.goto (-135), 3) := by decide +kernel
theorem dX5_sail_146 : decode cX5_sail 146 = .ok (.return_, 1) := by decide +kernel
set_option maxRecDepth 20000 in
theorem ggX5_moveOn_X5_needOf : GoodIn wsX5_moveOn wsX5_needOf := goodIn_r _ [8] (by decide +kernel) (by decide +kernel)
set_option maxRecDepth 20000 in
theorem gX5_moveOn_X5_needOf : GoodIn wsX5_moveOn (va_wsS RX5 268 yX5_needOf wsX5_needOf) := goodIn_app (goodIn_of _ (by decide +kernel)) ggX5_moveOn_X5_needOf
set_option maxRecDepth 20000 in
theorem ggX5_moveOn_X3_isHome : GoodIn wsX5_moveOn wsX3_isHome := goodIn_r _ [13, 14, 97, 98, 99, 100, 101, 102, 103, 104, 105, 106, 107, 108, 109, 110] (by decide +kernel) (by decide +kernel)
set_option maxRecDepth 20000 in
theorem gX5_moveOn_X3_isHome : GoodIn wsX5_moveOn (wsV RX5 222 RX3 yX3_isHome wsX3_isHome) := goodIn_app (goodIn_of _ (by decide +kernel)) ggX5_moveOn_X3_isHome
set_option maxRecDepth 20000 in
theorem ggX5_moveOn_X2_nextCell : GoodIn wsX5_moveOn wsX2_nextCell := goodIn_r _ [19, 20, 7, 21, 22, 23, 24, 18, 25, 26, 123, 124, 125] (by decide +kernel) (by decide +kernel)
set_option maxRecDepth 20000 in
theorem gX5_moveOn_X2_nextCell : GoodIn wsX5_moveOn (wsV RX5 274 RX2 yX2_nextCell wsX2_nextCell) := goodIn_app (goodIn_of _ (by decide +kernel)) ggX5_moveOn_X2_nextCell
set_option maxRecDepth 20000 in
theorem ggX5_moveOn_X5_comeTo : GoodIn wsX5_moveOn wsX5_comeTo := goodIn_r _ [30, 4, 31, 3, 32, 33, 34, 35, 36, 7, 37, 38, 39, 40, 41, 42, 43, 44, 18, 45, 46, 47, 20, 21, 48, 49, 50, 12, 51, 52, 53, 54, 55, 56, 57, 58, 59, 60, 61, 62, 63, 64, 65, 66, 67, 68, 69, 70, 71, 72, 73, 74, 75, 76, 77, 78, 79, 80, 81, 82, 83, 84, 85, 86, 87, 88, 89, 90, 91, 92, 93, 94, 95, 96, 97, 98, 99, 100, 101, 102, 103, 104, 105, 106, 107, 108, 109, 110, 111, 112, 113, 114, 115, 116, 117, 118, 119, 120, 121, 122, 123, 124, 125, 126, 127, 128, 129, 130, 131, 132, 133, 134] (by decide +kernel) (by decide +kernel)
set_option maxRecDepth 20000 in
theorem gX5_moveOn_X5_comeTo : GoodIn wsX5_moveOn (wsV RX5 277 RX5 yX5_comeTo wsX5_comeTo) := goodIn_app (goodIn_of _ (by decide +kernel)) ggX5_moveOn_X5_comeTo
theorem dX5_moveOn_0 : decode cX5_moveOn 0 = .ok (.iconst 0, 1) := by decide +kernel
theorem dX5_moveOn_1 : decode cX5_moveOn 1 = .ok (.istore_n 3, 1) := by decide +kernel
theorem dX5_moveOn_2 : decode cX5_moveOn 2 = .ok (.iload_n 3, 1) := by decide +kernel
theorem dX5_moveOn_3 : decode cX5_moveOn 3 = .ok (.sipush 1000, 3) := by decide +kernel
theorem dX5_moveOn_6 : decode cX5_moveOn 6 = .ok (.if_icmp .ge 86, 3) := by decide +kernel
theorem dX5_moveOn_9 : decode cX5_moveOn 9 = .ok (.aload_n 1, 1) := by decide +kernel
theorem dX5_moveOn_10 : decode cX5_moveOn 10 = .ok (.getfield 135, 3) := by decide +kernel
theorem dX5_moveOn_13 : decode cX5_moveOn 13 = .ok (.aload_n 1, 1) := by decide +kernel
theorem dX5_moveOn_14 : decode cX5_moveOn 14 = .ok (.getfield 138, 3) := by decide +kernel
theorem dX5_moveOn_17 : decode cX5_moveOn 17 = .ok (.invokestatic 268, 3) := by decide +kernel
theorem dX5_moveOn_20 : decode cX5_moveOn 20 = .ok (.if_icmp .lt 72, 3) := by decide +kernel
theorem dX5_moveOn_23 : decode cX5_moveOn 23 = .ok (.aload_n 1, 1) := by decide +kernel
theorem dX5_moveOn_24 : decode cX5_moveOn 24 = .ok (.invokevirtual 222, 3) := by decide +kernel
theorem dX5_moveOn_27 : decode cX5_moveOn 27 = .ok (.ifCond .ne 65, 3) := by decide +kernel
theorem dX5_moveOn_30 : decode cX5_moveOn 30 = .ok (.aload_n 0, 1) := by decide +kernel
theorem dX5_moveOn_31 : decode cX5_moveOn 31 = .ok (.getfield 10, 3) := by decide +kernel
theorem dX5_moveOn_34 : decode cX5_moveOn 34 = .ok (.aload_n 1, 1) := by decide +kernel
theorem dX5_moveOn_35 : decode cX5_moveOn 35 = .ok (.getfield 132, 3) := by decide +kernel
theorem dX5_moveOn_38 : decode cX5_moveOn 38 = .ok (.aload_n 1, 1) := by decide +kernel
theorem dX5_moveOn_39 : decode cX5_moveOn 39 = .ok (.getfield 138, 3) := by decide +kernel
theorem dX5_moveOn_42 : decode cX5_moveOn 42 = .ok (.invokevirtual 274, 3) := by decide +kernel
theorem dX5_moveOn_45 : decode cX5_moveOn 45 = .ok (.istore 4, 2) := by decide +kernel
theorem dX5_moveOn_47 : decode cX5_moveOn 47 = .ok (.iload 4, 2) := by decide +kernel
theorem dX5_moveOn_49 : decode cX5_moveOn 49 = .ok (.bipush (-9), 2) := by decide +kernel
theorem dX5_moveOn_51 : decode cX5_moveOn 51 = .ok (.if_icmp .ne 11, 3) := by decide +kernel
theorem dX5_moveOn_54 : decode cX5_moveOn 54 = .ok (.aload_n 1, 1) := by decide +kernel
theorem dX5_moveOn_55 : decode cX5_moveOn 55 = .ok (.iconst 0, 1) := by decide +kernel
theorem dX5_moveOn_56 : decode cX5_moveOn 56 = .ok (.putfield 135, 3) := by decide +kernel
theorem dX5_moveOn_59 : decode cX5_moveOn 59 = .ok (.goto 27, 3) := by decide +kernel
theorem dX5_moveOn_62 : decode cX5_moveOn 62 = .ok (.aload_n 1, 1) := by decide +kernel
theorem dX5_moveOn_63 : decode cX5_moveOn 63 = .ok (.dup, 1) := by decide +kernel
theorem dX5_moveOn_64 : decode cX5_moveOn 64 = .ok (.getfield 135, 3) := by decide +kernel
theorem dX5_moveOn_67 : decode cX5_moveOn 67 = .ok (.aload_n 1, 1) := by decide +kernel
theorem dX5_moveOn_68 : decode cX5_moveOn 68 = .ok (.getfield 138, 3) := by decide +kernel
theorem dX5_moveOn_71 : decode cX5_moveOn 71 = .ok (.invokestatic 268, 3) := by decide +kernel
theorem dX5_moveOn_74 : decode cX5_moveOn 74 = .ok (.isub, 1) := by decide +kernel
theorem dX5_moveOn_75 : decode cX5_moveOn 75 = .ok (.putfield 135, 3) := by decide +kernel
theorem dX5_moveOn_78 : decode cX5_moveOn 78 = .ok (.aload_n 0, 1) := by decide +kernel
theorem dX5_moveOn_79 : decode cX5_moveOn 79 = .ok (.aload_n 1, 1) := by decide +kernel
theorem dX5_moveOn_80 : decode cX5_moveOn 80 = .ok (.iload 4, 2) := by decide +kernel
theorem dX5_moveOn_82 : decode cX5_moveOn 82 = .ok (.iload_n 2, 1) := by decide +kernel
theorem dX5_moveOn_83 : decode cX5_moveOn 83 = .ok (.invokevirtual 277, 3) := by decide +kernel
theorem dX5_moveOn_86 : decode cX5_moveOn 86 = .ok (.iinc 3 1, 3) := by decide +kernel
theorem dX5_moveOn_89 : decode cX5_moveOn 89 = .ok (.goto (-87), 3) := by decide +kernel
theorem dX5_moveOn_92 : decode cX5_moveOn 92 = .ok (.return_, 1) := by decide +kernel
set_option maxRecDepth 20000 in
theorem ggX5_comeTo_X5_monthOf : GoodIn wsX5_comeTo wsX5_monthOf := goodIn_r _ [10, 11, 12, 13, 14] (by decide +kernel) (by decide +kernel)
set_option maxRecDepth 20000 in
theorem gX5_comeTo_X5_monthOf : GoodIn wsX5_comeTo (va_wsS RX5 262 yX5_monthOf wsX5_monthOf) := goodIn_app (goodIn_of _ (by decide +kernel)) ggX5_comeTo_X5_monthOf
set_option maxRecDepth 20000 in
theorem ggX5_comeTo_X2_windIn : GoodIn wsX5_comeTo wsX2_windIn := goodIn_r _ [19, 20, 21, 22, 9, 23, 100, 101, 102] (by decide +kernel) (by decide +kernel)
set_option maxRecDepth 20000 in
theorem gX5_comeTo_X2_windIn : GoodIn wsX5_comeTo (wsV RX5 98 RX2 yX2_windIn wsX2_windIn) := goodIn_app (goodIn_of _ (by decide +kernel)) ggX5_comeTo_X2_windIn
set_option maxRecDepth 20000 in
theorem ggX5_comeTo_X3_askWay : GoodIn wsX5_comeTo wsX3_askWay := goodIn_r _ [28, 29, 30, 31, 32, 33, 34, 35, 36, 37, 38, 39, 40, 41, 42, 43, 44, 45, 46, 47, 48, 49, 50, 51, 52, 53, 54, 55, 56, 57, 9, 58, 59, 60, 61, 62, 63, 64, 65, 66, 67, 68, 74, 75, 76, 77, 78, 79, 80, 81, 82, 83, 84, 85, 86, 87, 103, 104, 105, 106, 107, 108, 109, 110, 111] (by decide +kernel) (by decide +kernel)
set_option maxRecDepth 20000 in
theorem gX5_comeTo_X3_askWay : GoodIn wsX5_comeTo (wsV RX5 265 RX3 yX3_askWay wsX3_askWay) := goodIn_app (goodIn_of _ (by decide +kernel)) ggX5_comeTo_X3_askWay
set_option maxRecDepth 20000 in
theorem ggX5_comeTo_X5_entryFrom : GoodIn wsX5_comeTo wsX5_entryFrom := goodIn_r _ [72, 73, 11, 12, 13, 14, 88, 89, 90, 91, 92, 93, 94, 95, 96, 97, 98, 99] (by decide +kernel) (by decide +kernel)
set_option maxRecDepth 20000 in
theorem gX5_comeTo_X5_entryFrom : GoodIn wsX5_comeTo (wsV RX5 281 RX5 yX5_entryFrom wsX5_entryFrom) := goodIn_app (goodIn_of _ (by decide +kernel)) ggX5_comeTo_X5_entryFrom
theorem dX5_comeTo_0 : decode cX5_comeTo 0 = .ok (.aload_n 1, 1) := by decide +kernel
theorem dX5_comeTo_1 : decode cX5_comeTo 1 = .ok (.iload_n 2, 1) := by decide +kernel
theorem dX5_comeTo_2 : decode cX5_comeTo 2 = .ok (.putfield 132, 3) := by decide +kernel
theorem dX5_comeTo_5 : decode cX5_comeTo 5 = .ok (.aload_n 1, 1) := by decide +kernel
theorem dX5_comeTo_6 : decode cX5_comeTo 6 = .ok (.dup, 1) := by decide +kernel
theorem dX5_comeTo_7 : decode cX5_comeTo 7 = .ok (.getfield 159, 3) := by decide +kernel
theorem dX5_comeTo_10 : decode cX5_comeTo 10 = .ok (.iconst 1, 1) := by decide +kernel
theorem dX5_comeTo_11 : decode cX5_comeTo 11 = .ok (.iadd, 1) := by decide +kernel
theorem dX5_comeTo_12 : decode cX5_comeTo 12 = .ok (.putfield 159, 3) := by decide +kernel
theorem dX5_comeTo_15 : decode cX5_comeTo 15 = .ok (.aload_n 1, 1) := by decide +kernel
theorem dX5_comeTo_16 : decode cX5_comeTo 16 = .ok (.aload_n 0, 1) := by decide +kernel
theorem dX5_comeTo_17 : decode cX5_comeTo 17 = .ok (.getfield 10, 3) := by decide +kernel
theorem dX5_comeTo_20 : decode cX5_comeTo 20 = .ok (.iload_n 3, 1) := by decide +kernel
theorem dX5_comeTo_21 : decode cX5_comeTo 21 = .ok (.invokestatic 262, 3) := by decide +kernel
theorem dX5_comeTo_24 : decode cX5_comeTo 24 = .ok (.iload_n 2, 1) := by decide +kernel
theorem dX5_comeTo_25 : decode cX5_comeTo 25 = .ok (.invokevirtual 98, 3) := by decide +kernel
theorem dX5_comeTo_28 : decode cX5_comeTo 28 = .ok (.invokevirtual 265, 3) := by decide +kernel
theorem dX5_comeTo_31 : decode cX5_comeTo 31 = .ok (.iload_n 2, 1) := by decide +kernel
theorem dX5_comeTo_32 : decode cX5_comeTo 32 = .ok (.aload_n 0, 1) := by decide +kernel
theorem dX5_comeTo_33 : decode cX5_comeTo 33 = .ok (.getfield 41, 3) := by decide +kernel
theorem dX5_comeTo_36 : decode cX5_comeTo 36 = .ok (.if_icmp .ne 17, 3) := by decide +kernel
theorem dX5_comeTo_39 : decode cX5_comeTo 39 = .ok (.aload_n 1, 1) := by decide +kernel
theorem dX5_comeTo_40 : decode cX5_comeTo 40 = .ok (.iload_n 3, 1) := by decide +kernel
theorem dX5_comeTo_41 : decode cX5_comeTo 41 = .ok (.putfield 141, 3) := by decide +kernel
theorem dX5_comeTo_44 : decode cX5_comeTo 44 = .ok (.aload_n 1, 1) := by decide +kernel
theorem dX5_comeTo_45 : decode cX5_comeTo 45 = .ok (.aload_n 0, 1) := by decide +kernel
theorem dX5_comeTo_46 : decode cX5_comeTo 46 = .ok (.iload_n 3, 1) := by decide +kernel
theorem dX5_comeTo_47 : decode cX5_comeTo 47 = .ok (.invokevirtual 281, 3) := by decide +kernel
theorem dX5_comeTo_50 : decode cX5_comeTo 50 = .ok (.putfield 144, 3) := by decide +kernel
theorem dX5_comeTo_53 : decode cX5_comeTo 53 = .ok (.return_, 1) := by decide +kernel
set_option maxRecDepth 20000 in
theorem ggX5_shipsHome_Jx4a65c_size_8abf5 : GoodIn wsX5_shipsHome wsJx4a65c_size_8abf5 := goodIn_r _ [7, 8, 44, 45, 46] (by decide +kernel) (by decide +kernel)
set_option maxRecDepth 20000 in
theorem gX5_shipsHome_Jx4a65c_size_8abf5_f107Jx4a65c : GoodIn wsX5_shipsHome (va_wsF RX5 107 RJx4a65c ⟨"java/util/List", "size", "()I"⟩ yJx4a65c_size_8abf5 wsJx4a65c_size_8abf5) := goodIn_app (goodIn_of _ (by decide +kernel)) ggX5_shipsHome_Jx4a65c_size_8abf5
set_option maxRecDepth 20000 in
theorem ggX5_shipsHome_Jx4a65c_get_915e3 : GoodIn wsX5_shipsHome wsJx4a65c_get_915e3 := goodIn_r _ [12, 8, 13, 14, 15, 16, 17, 18, 19, 20, 21, 22, 23, 6, 24, 25, 44, 45, 46] (by decide +kernel) (by decide +kernel)
set_option maxRecDepth 20000 in
theorem gX5_shipsHome_Jx4a65c_get_915e3_f175Jx4a65c : GoodIn wsX5_shipsHome (va_wsF RX5 175 RJx4a65c ⟨"java/util/List", "get", "(I)Ljava/lang/Object;"⟩ yJx4a65c_get_915e3 wsJx4a65c_get_915e3) := goodIn_app (goodIn_of _ (by decide +kernel)) ggX5_shipsHome_Jx4a65c_get_915e3
set_option maxRecDepth 20000 in
theorem ggX5_shipsHome_X3_isHome : GoodIn wsX5_shipsHome wsX3_isHome := goodIn_r _ [30, 31, 47, 48, 49, 50, 51, 52, 53, 54, 55, 56, 57, 58, 59, 60] (by decide +kernel) (by decide +kernel)
set_option maxRecDepth 20000 in
theorem gX5_shipsHome_X3_isHome : GoodIn wsX5_shipsHome (wsV RX5 222 RX3 yX3_isHome wsX3_isHome) := goodIn_app (goodIn_of _ (by decide +kernel)) ggX5_shipsHome_X3_isHome
theorem dX5_shipsHome_0 : decode cX5_shipsHome 0 = .ok (.iconst 0, 1) := by decide +kernel
theorem dX5_shipsHome_1 : decode cX5_shipsHome 1 = .ok (.istore_n 1, 1) := by decide +kernel
theorem dX5_shipsHome_2 : decode cX5_shipsHome 2 = .ok (.iconst 0, 1) := by decide +kernel
theorem dX5_shipsHome_3 : decode cX5_shipsHome 3 = .ok (.istore_n 2, 1) := by decide +kernel
theorem dX5_shipsHome_4 : decode cX5_shipsHome 4 = .ok (.iload_n 2, 1) := by decide +kernel
theorem dX5_shipsHome_5 : decode cX5_shipsHome 5 = .ok (.aload_n 0, 1) := by decide +kernel
theorem dX5_shipsHome_6 : decode cX5_shipsHome 6 = .ok (.getfield 26, 3) := by decide +kernel
theorem dX5_shipsHome_9 : decode cX5_shipsHome 9 = .ok (.invokeinterface 107 1, 5) := by decide +kernel
theorem dX5_shipsHome_14 : decode cX5_shipsHome 14 = .ok (.if_icmp .ge 31, 3) := by decide +kernel
theorem dX5_shipsHome_17 : decode cX5_shipsHome 17 = .ok (.aload_n 0, 1) := by decide +kernel
theorem dX5_shipsHome_18 : decode cX5_shipsHome 18 = .ok (.getfield 26, 3) := by decide +kernel
theorem dX5_shipsHome_21 : decode cX5_shipsHome 21 = .ok (.iload_n 2, 1) := by decide +kernel
theorem dX5_shipsHome_22 : decode cX5_shipsHome 22 = .ok (.invokeinterface 175 2, 5) := by decide +kernel
theorem dX5_shipsHome_27 : decode cX5_shipsHome 27 = .ok (.checkcast 113, 3) := by decide +kernel
theorem dX5_shipsHome_30 : decode cX5_shipsHome 30 = .ok (.invokevirtual 222, 3) := by decide +kernel
theorem dX5_shipsHome_33 : decode cX5_shipsHome 33 = .ok (.ifCond .eq 6, 3) := by decide +kernel
theorem dX5_shipsHome_36 : decode cX5_shipsHome 36 = .ok (.iinc 1 1, 3) := by decide +kernel
theorem dX5_shipsHome_39 : decode cX5_shipsHome 39 = .ok (.iinc 2 1, 3) := by decide +kernel
theorem dX5_shipsHome_42 : decode cX5_shipsHome 42 = .ok (.goto (-38), 3) := by decide +kernel
theorem dX5_shipsHome_45 : decode cX5_shipsHome 45 = .ok (.iload_n 1, 1) := by decide +kernel
theorem dX5_shipsHome_46 : decode cX5_shipsHome 46 = .ok (.ireturn, 1) := by decide +kernel
set_option maxRecDepth 20000 in
theorem ggX5_theFirst_Jx4a65c_size_8abf5 : GoodIn wsX5_theFirst wsJx4a65c_size_8abf5 := goodIn_r _ [7, 8, 50, 51, 52] (by decide +kernel) (by decide +kernel)
set_option maxRecDepth 20000 in
theorem gX5_theFirst_Jx4a65c_size_8abf5_f107Jx4a65c : GoodIn wsX5_theFirst (va_wsF RX5 107 RJx4a65c ⟨"java/util/List", "size", "()I"⟩ yJx4a65c_size_8abf5 wsJx4a65c_size_8abf5) := goodIn_app (goodIn_of _ (by decide +kernel)) ggX5_theFirst_Jx4a65c_size_8abf5
set_option maxRecDepth 20000 in
theorem ggX5_theFirst_Jx4a65c_get_915e3 : GoodIn wsX5_theFirst wsJx4a65c_get_915e3 := goodIn_r _ [12, 8, 13, 14, 15, 16, 17, 18, 19, 20, 21, 22, 23, 6, 24, 25, 50, 51, 52] (by decide +kernel) (by decide +kernel)
set_option maxRecDepth 20000 in
theorem gX5_theFirst_Jx4a65c_get_915e3_f175Jx4a65c : GoodIn wsX5_theFirst (va_wsF RX5 175 RJx4a65c ⟨"java/util/List", "get", "(I)Ljava/lang/Object;"⟩ yJx4a65c_get_915e3 wsJx4a65c_get_915e3) := goodIn_app (goodIn_of _ (by decide +kernel)) ggX5_theFirst_Jx4a65c_get_915e3
set_option maxRecDepth 20000 in
theorem ggX5_theFirst_X3_isHome : GoodIn wsX5_theFirst wsX3_isHome := goodIn_r _ [30, 31, 53, 54, 55, 56, 57, 58, 59, 60, 61, 62, 63, 64, 65, 66] (by decide +kernel) (by decide +kernel)
set_option maxRecDepth 20000 in
theorem gX5_theFirst_X3_isHome : GoodIn wsX5_theFirst (wsV RX5 222 RX3 yX3_isHome wsX3_isHome) := goodIn_app (goodIn_of _ (by decide +kernel)) ggX5_theFirst_X3_isHome
set_option maxRecDepth 20000 in
theorem ggX5_theFirst_X3_beats : GoodIn wsX5_theFirst wsX3_beats := goodIn_r _ [35, 36, 31, 37, 53, 54, 55, 56, 57, 58, 59, 60, 61, 62, 63, 64, 65, 66] (by decide +kernel) (by decide +kernel)
set_option maxRecDepth 20000 in
theorem gX5_theFirst_X3_beats : GoodIn wsX5_theFirst (wsV RX5 284 RX3 yX3_beats wsX3_beats) := goodIn_app (goodIn_of _ (by decide +kernel)) ggX5_theFirst_X3_beats
theorem dX5_theFirst_0 : decode cX5_theFirst 0 = .ok (.aconst_null, 1) := by decide +kernel
theorem dX5_theFirst_1 : decode cX5_theFirst 1 = .ok (.astore_n 1, 1) := by decide +kernel
theorem dX5_theFirst_2 : decode cX5_theFirst 2 = .ok (.iconst 0, 1) := by decide +kernel
theorem dX5_theFirst_3 : decode cX5_theFirst 3 = .ok (.istore_n 2, 1) := by decide +kernel
theorem dX5_theFirst_4 : decode cX5_theFirst 4 = .ok (.iload_n 2, 1) := by decide +kernel
theorem dX5_theFirst_5 : decode cX5_theFirst 5 = .ok (.aload_n 0, 1) := by decide +kernel
theorem dX5_theFirst_6 : decode cX5_theFirst 6 = .ok (.getfield 26, 3) := by decide +kernel
theorem dX5_theFirst_9 : decode cX5_theFirst 9 = .ok (.invokeinterface 107 1, 5) := by decide +kernel
theorem dX5_theFirst_14 : decode cX5_theFirst 14 = .ok (.if_icmp .ge 44, 3) := by decide +kernel
theorem dX5_theFirst_17 : decode cX5_theFirst 17 = .ok (.aload_n 0, 1) := by decide +kernel
theorem dX5_theFirst_18 : decode cX5_theFirst 18 = .ok (.getfield 26, 3) := by decide +kernel
theorem dX5_theFirst_21 : decode cX5_theFirst 21 = .ok (.iload_n 2, 1) := by decide +kernel
theorem dX5_theFirst_22 : decode cX5_theFirst 22 = .ok (.invokeinterface 175 2, 5) := by decide +kernel
theorem dX5_theFirst_27 : decode cX5_theFirst 27 = .ok (.checkcast 113, 3) := by decide +kernel
theorem dX5_theFirst_30 : decode cX5_theFirst 30 = .ok (.astore_n 3, 1) := by decide +kernel
theorem dX5_theFirst_31 : decode cX5_theFirst 31 = .ok (.aload_n 3, 1) := by decide +kernel
theorem dX5_theFirst_32 : decode cX5_theFirst 32 = .ok (.invokevirtual 222, 3) := by decide +kernel
theorem dX5_theFirst_35 : decode cX5_theFirst 35 = .ok (.ifCond .eq 17, 3) := by decide +kernel
theorem dX5_theFirst_38 : decode cX5_theFirst 38 = .ok (.aload_n 1, 1) := by decide +kernel
theorem dX5_theFirst_39 : decode cX5_theFirst 39 = .ok (.ifnull 11, 3) := by decide +kernel
theorem dX5_theFirst_42 : decode cX5_theFirst 42 = .ok (.aload_n 3, 1) := by decide +kernel
theorem dX5_theFirst_43 : decode cX5_theFirst 43 = .ok (.aload_n 1, 1) := by decide +kernel
theorem dX5_theFirst_44 : decode cX5_theFirst 44 = .ok (.invokevirtual 284, 3) := by decide +kernel
theorem dX5_theFirst_47 : decode cX5_theFirst 47 = .ok (.ifCond .eq 5, 3) := by decide +kernel
theorem dX5_theFirst_50 : decode cX5_theFirst 50 = .ok (.aload_n 3, 1) := by decide +kernel
theorem dX5_theFirst_51 : decode cX5_theFirst 51 = .ok (.astore_n 1, 1) := by decide +kernel
theorem dX5_theFirst_52 : decode cX5_theFirst 52 = .ok (.iinc 2 1, 3) := by decide +kernel
theorem dX5_theFirst_55 : decode cX5_theFirst 55 = .ok (.goto (-51), 3) := by decide +kernel
theorem dX5_theFirst_58 : decode cX5_theFirst 58 = .ok (.aload_n 1, 1) := by decide +kernel
theorem dX5_theFirst_59 : decode cX5_theFirst 59 = .ok (.areturn, 1) := by decide +kernel
theorem dX5_distanceFromHome_0 : decode cX5_distanceFromHome 0 = .ok (.iload_n 1, 1) := by decide +kernel
theorem dX5_distanceFromHome_1 : decode cX5_distanceFromHome 1 = .ok (.bipush 16, 2) := by decide +kernel
theorem dX5_distanceFromHome_3 : decode cX5_distanceFromHome 3 = .ok (.irem, 1) := by decide +kernel
theorem dX5_distanceFromHome_4 : decode cX5_distanceFromHome 4 = .ok (.aload_n 0, 1) := by decide +kernel
theorem dX5_distanceFromHome_5 : decode cX5_distanceFromHome 5 = .ok (.getfield 41, 3) := by decide +kernel
theorem dX5_distanceFromHome_8 : decode cX5_distanceFromHome 8 = .ok (.bipush 16, 2) := by decide +kernel
theorem dX5_distanceFromHome_10 : decode cX5_distanceFromHome 10 = .ok (.irem, 1) := by decide +kernel
theorem dX5_distanceFromHome_11 : decode cX5_distanceFromHome 11 = .ok (.isub, 1) := by decide +kernel
theorem dX5_distanceFromHome_12 : decode cX5_distanceFromHome 12 = .ok (.invokestatic 251, 3) := by decide +kernel
theorem dX5_distanceFromHome_15 : decode cX5_distanceFromHome 15 = .ok (.istore_n 2, 1) := by decide +kernel
theorem dX5_distanceFromHome_16 : decode cX5_distanceFromHome 16 = .ok (.iload_n 1, 1) := by decide +kernel
theorem dX5_distanceFromHome_17 : decode cX5_distanceFromHome 17 = .ok (.bipush 16, 2) := by decide +kernel
theorem dX5_distanceFromHome_19 : decode cX5_distanceFromHome 19 = .ok (.idiv, 1) := by decide +kernel
theorem dX5_distanceFromHome_20 : decode cX5_distanceFromHome 20 = .ok (.aload_n 0, 1) := by decide +kernel
theorem dX5_distanceFromHome_21 : decode cX5_distanceFromHome 21 = .ok (.getfield 41, 3) := by decide +kernel
theorem dX5_distanceFromHome_24 : decode cX5_distanceFromHome 24 = .ok (.bipush 16, 2) := by decide +kernel
theorem dX5_distanceFromHome_26 : decode cX5_distanceFromHome 26 = .ok (.idiv, 1) := by decide +kernel
theorem dX5_distanceFromHome_27 : decode cX5_distanceFromHome 27 = .ok (.isub, 1) := by decide +kernel
theorem dX5_distanceFromHome_28 : decode cX5_distanceFromHome 28 = .ok (.invokestatic 251, 3) := by decide +kernel
theorem dX5_distanceFromHome_31 : decode cX5_distanceFromHome 31 = .ok (.istore_n 3, 1) := by decide +kernel
theorem dX5_distanceFromHome_32 : decode cX5_distanceFromHome 32 = .ok (.iload_n 2, 1) := by decide +kernel
theorem dX5_distanceFromHome_33 : decode cX5_distanceFromHome 33 = .ok (.iload_n 3, 1) := by decide +kernel
theorem dX5_distanceFromHome_34 : decode cX5_distanceFromHome 34 = .ok (.invokestatic 288, 3) := by decide +kernel
theorem dX5_distanceFromHome_37 : decode cX5_distanceFromHome 37 = .ok (.ireturn, 1) := by decide +kernel
set_option maxRecDepth 20000 in
theorem ggX5_leastDistance_X3_lastSightBy : GoodIn wsX5_leastDistance wsX3_lastSightBy := goodIn_r _ [11, 12, 13, 14, 15, 16, 17, 18, 19, 20, 21, 22, 23, 24, 25, 26, 27, 28, 29, 30, 31, 32, 33, 34, 35, 36, 37, 53, 54, 55, 56, 57, 58, 59, 60, 61, 62, 63, 64, 65, 66, 51, 52, 67, 68, 69] (by decide +kernel) (by decide +kernel)
set_option maxRecDepth 20000 in
theorem gX5_leastDistance_X3_lastSightBy : GoodIn wsX5_leastDistance (wsV RX5 291 RX3 yX3_lastSightBy wsX3_lastSightBy) := goodIn_app (goodIn_of _ (by decide +kernel)) ggX5_leastDistance_X3_lastSightBy
set_option maxRecDepth 20000 in
theorem ggX5_leastDistance_X3_firstSightFrom : GoodIn wsX5_leastDistance wsX3_firstSightFrom := goodIn_r _ [41, 12, 13, 14, 15, 16, 17, 18, 19, 20, 21, 22, 23, 24, 25, 26, 27, 28, 29, 30, 31, 32, 33, 34, 35, 36, 37, 53, 54, 55, 56, 57, 58, 59, 60, 61, 62, 63, 64, 65, 66, 51, 52, 67, 68, 69] (by decide +kernel) (by decide +kernel)
set_option maxRecDepth 20000 in
theorem gX5_leastDistance_X3_firstSightFrom : GoodIn wsX5_leastDistance (wsV RX5 295 RX3 yX3_firstSightFrom wsX3_firstSightFrom) := goodIn_app (goodIn_of _ (by decide +kernel)) ggX5_leastDistance_X3_firstSightFrom
set_option maxRecDepth 20000 in
theorem ggX5_leastDistance_X5_distanceFromHome : GoodIn wsX5_leastDistance wsX5_distanceFromHome := goodIn_r _ [46, 47, 48, 49, 5, 50, 3, 4, 6, 70, 71, 72, 73, 74, 75, 76, 77, 78, 79, 80, 81] (by decide +kernel) (by decide +kernel)
set_option maxRecDepth 20000 in
theorem gX5_leastDistance_X5_distanceFromHome : GoodIn wsX5_leastDistance (wsV RX5 299 RX5 yX5_distanceFromHome wsX5_distanceFromHome) := goodIn_app (goodIn_of _ (by decide +kernel)) ggX5_leastDistance_X5_distanceFromHome
theorem dX5_leastDistance_0 : decode cX5_leastDistance 0 = .ok (.aload_n 1, 1) := by decide +kernel
theorem dX5_leastDistance_1 : decode cX5_leastDistance 1 = .ok (.iload_n 2, 1) := by decide +kernel
theorem dX5_leastDistance_2 : decode cX5_leastDistance 2 = .ok (.invokevirtual 291, 3) := by decide +kernel
theorem dX5_leastDistance_5 : decode cX5_leastDistance 5 = .ok (.astore_n 3, 1) := by decide +kernel
theorem dX5_leastDistance_6 : decode cX5_leastDistance 6 = .ok (.aload_n 1, 1) := by decide +kernel
theorem dX5_leastDistance_7 : decode cX5_leastDistance 7 = .ok (.iload_n 2, 1) := by decide +kernel
theorem dX5_leastDistance_8 : decode cX5_leastDistance 8 = .ok (.invokevirtual 295, 3) := by decide +kernel
theorem dX5_leastDistance_11 : decode cX5_leastDistance 11 = .ok (.astore 4, 2) := by decide +kernel
theorem dX5_leastDistance_13 : decode cX5_leastDistance 13 = .ok (.aload_n 3, 1) := by decide +kernel
theorem dX5_leastDistance_14 : decode cX5_leastDistance 14 = .ok (.ifnull 8, 3) := by decide +kernel
theorem dX5_leastDistance_17 : decode cX5_leastDistance 17 = .ok (.aload 4, 2) := by decide +kernel
theorem dX5_leastDistance_19 : decode cX5_leastDistance 19 = .ok (.ifnonnull 6, 3) := by decide +kernel
theorem dX5_leastDistance_22 : decode cX5_leastDistance 22 = .ok (.bipush (-9), 2) := by decide +kernel
theorem dX5_leastDistance_24 : decode cX5_leastDistance 24 = .ok (.ireturn, 1) := by decide +kernel
theorem dX5_leastDistance_25 : decode cX5_leastDistance 25 = .ok (.aload_n 0, 1) := by decide +kernel
theorem dX5_leastDistance_26 : decode cX5_leastDistance 26 = .ok (.aload_n 3, 1) := by decide +kernel
theorem dX5_leastDistance_27 : decode cX5_leastDistance 27 = .ok (.getfield 298, 3) := by decide +kernel
theorem dX5_leastDistance_30 : decode cX5_leastDistance 30 = .ok (.invokevirtual 299, 3) := by decide +kernel
theorem dX5_leastDistance_33 : decode cX5_leastDistance 33 = .ok (.iload_n 2, 1) := by decide +kernel
theorem dX5_leastDistance_34 : decode cX5_leastDistance 34 = .ok (.aload_n 3, 1) := by decide +kernel
theorem dX5_leastDistance_35 : decode cX5_leastDistance 35 = .ok (.getfield 302, 3) := by decide +kernel
theorem dX5_leastDistance_38 : decode cX5_leastDistance 38 = .ok (.isub, 1) := by decide +kernel
theorem dX5_leastDistance_39 : decode cX5_leastDistance 39 = .ok (.isub, 1) := by decide +kernel
theorem dX5_leastDistance_40 : decode cX5_leastDistance 40 = .ok (.istore 5, 2) := by decide +kernel
theorem dX5_leastDistance_42 : decode cX5_leastDistance 42 = .ok (.aload_n 0, 1) := by decide +kernel
theorem dX5_leastDistance_43 : decode cX5_leastDistance 43 = .ok (.aload 4, 2) := by decide +kernel
theorem dX5_leastDistance_45 : decode cX5_leastDistance 45 = .ok (.getfield 298, 3) := by decide +kernel
theorem dX5_leastDistance_48 : decode cX5_leastDistance 48 = .ok (.invokevirtual 299, 3) := by decide +kernel
theorem dX5_leastDistance_51 : decode cX5_leastDistance 51 = .ok (.aload 4, 2) := by decide +kernel
theorem dX5_leastDistance_53 : decode cX5_leastDistance 53 = .ok (.getfield 302, 3) := by decide +kernel
theorem dX5_leastDistance_56 : decode cX5_leastDistance 56 = .ok (.iload_n 2, 1) := by decide +kernel
theorem dX5_leastDistance_57 : decode cX5_leastDistance 57 = .ok (.isub, 1) := by decide +kernel
theorem dX5_leastDistance_58 : decode cX5_leastDistance 58 = .ok (.isub, 1) := by decide +kernel
theorem dX5_leastDistance_59 : decode cX5_leastDistance 59 = .ok (.istore 6, 2) := by decide +kernel
theorem dX5_leastDistance_61 : decode cX5_leastDistance 61 = .ok (.iconst 0, 1) := by decide +kernel
theorem dX5_leastDistance_62 : decode cX5_leastDistance 62 = .ok (.iload 5, 2) := by decide +kernel
theorem dX5_leastDistance_64 : decode cX5_leastDistance 64 = .ok (.iload 6, 2) := by decide +kernel
theorem dX5_leastDistance_66 : decode cX5_leastDistance 66 = .ok (.invokestatic 288, 3) := by decide +kernel
theorem dX5_leastDistance_69 : decode cX5_leastDistance 69 = .ok (.invokestatic 288, 3) := by decide +kernel
theorem dX5_leastDistance_72 : decode cX5_leastDistance 72 = .ok (.ireturn, 1) := by decide +kernel
set_option maxRecDepth 20000 in
theorem ggX5_mostDistance_X3_lastSightBy : GoodIn wsX5_mostDistance wsX3_lastSightBy := goodIn_r _ [11, 12, 13, 14, 15, 16, 17, 18, 19, 20, 21, 22, 23, 24, 25, 26, 27, 28, 29, 30, 31, 32, 33, 34, 35, 36, 37, 56, 57, 58, 59, 60, 61, 62, 63, 64, 65, 66, 67, 68, 69, 54, 55, 70, 71, 72] (by decide +kernel) (by decide +kernel)
set_option maxRecDepth 20000 in
theorem gX5_mostDistance_X3_lastSightBy : GoodIn wsX5_mostDistance (wsV RX5 291 RX3 yX3_lastSightBy wsX3_lastSightBy) := goodIn_app (goodIn_of _ (by decide +kernel)) ggX5_mostDistance_X3_lastSightBy
set_option maxRecDepth 20000 in
theorem ggX5_mostDistance_X3_firstSightFrom : GoodIn wsX5_mostDistance wsX3_firstSightFrom := goodIn_r _ [41, 12, 13, 14, 15, 16, 17, 18, 19, 20, 21, 22, 23, 24, 25, 26, 27, 28, 29, 30, 31, 32, 33, 34, 35, 36, 37, 56, 57, 58, 59, 60, 61, 62, 63, 64, 65, 66, 67, 68, 69, 54, 55, 70, 71, 72] (by decide +kernel) (by decide +kernel)
set_option maxRecDepth 20000 in
theorem gX5_mostDistance_X3_firstSightFrom : GoodIn wsX5_mostDistance (wsV RX5 295 RX3 yX3_firstSightFrom wsX3_firstSightFrom) := goodIn_app (goodIn_of _ (by decide +kernel)) ggX5_mostDistance_X3_firstSightFrom
set_option maxRecDepth 20000 in
theorem ggX5_mostDistance_X5_distanceFromHome : GoodIn wsX5_mostDistance wsX5_distanceFromHome := goodIn_r _ [46, 47, 48, 49, 5, 50, 51, 52, 53, 73, 74, 75, 76, 77, 78, 79, 80, 81, 82, 83, 84] (by decide +kernel) (by decide +kernel)
set_option maxRecDepth 20000 in
theorem gX5_mostDistance_X5_distanceFromHome : GoodIn wsX5_mostDistance (wsV RX5 299 RX5 yX5_distanceFromHome wsX5_distanceFromHome) := goodIn_app (goodIn_of _ (by decide +kernel)) ggX5_mostDistance_X5_distanceFromHome
theorem dX5_mostDistance_0 : decode cX5_mostDistance 0 = .ok (.aload_n 1, 1) := by decide +kernel
theorem dX5_mostDistance_1 : decode cX5_mostDistance 1 = .ok (.iload_n 2, 1) := by decide +kernel
theorem dX5_mostDistance_2 : decode cX5_mostDistance 2 = .ok (.invokevirtual 291, 3) := by decide +kernel
theorem dX5_mostDistance_5 : decode cX5_mostDistance 5 = .ok (.astore_n 3, 1) := by decide +kernel
theorem dX5_mostDistance_6 : decode cX5_mostDistance 6 = .ok (.aload_n 1, 1) := by decide +kernel
theorem dX5_mostDistance_7 : decode cX5_mostDistance 7 = .ok (.iload_n 2, 1) := by decide +kernel
theorem dX5_mostDistance_8 : decode cX5_mostDistance 8 = .ok (.invokevirtual 295, 3) := by decide +kernel
theorem dX5_mostDistance_11 : decode cX5_mostDistance 11 = .ok (.astore 4, 2) := by decide +kernel
theorem dX5_mostDistance_13 : decode cX5_mostDistance 13 = .ok (.aload_n 3, 1) := by decide +kernel
theorem dX5_mostDistance_14 : decode cX5_mostDistance 14 = .ok (.ifnull 8, 3) := by decide +kernel
theorem dX5_mostDistance_17 : decode cX5_mostDistance 17 = .ok (.aload 4, 2) := by decide +kernel
theorem dX5_mostDistance_19 : decode cX5_mostDistance 19 = .ok (.ifnonnull 6, 3) := by decide +kernel
theorem dX5_mostDistance_22 : decode cX5_mostDistance 22 = .ok (.bipush (-9), 2) := by decide +kernel
theorem dX5_mostDistance_24 : decode cX5_mostDistance 24 = .ok (.ireturn, 1) := by decide +kernel
theorem dX5_mostDistance_25 : decode cX5_mostDistance 25 = .ok (.aload_n 0, 1) := by decide +kernel
theorem dX5_mostDistance_26 : decode cX5_mostDistance 26 = .ok (.aload_n 3, 1) := by decide +kernel
theorem dX5_mostDistance_27 : decode cX5_mostDistance 27 = .ok (.getfield 298, 3) := by decide +kernel
theorem dX5_mostDistance_30 : decode cX5_mostDistance 30 = .ok (.invokevirtual 299, 3) := by decide +kernel
theorem dX5_mostDistance_33 : decode cX5_mostDistance 33 = .ok (.iload_n 2, 1) := by decide +kernel
theorem dX5_mostDistance_34 : decode cX5_mostDistance 34 = .ok (.aload_n 3, 1) := by decide +kernel
theorem dX5_mostDistance_35 : decode cX5_mostDistance 35 = .ok (.getfield 302, 3) := by decide +kernel
theorem dX5_mostDistance_38 : decode cX5_mostDistance 38 = .ok (.isub, 1) := by decide +kernel
theorem dX5_mostDistance_39 : decode cX5_mostDistance 39 = .ok (.iadd, 1) := by decide +kernel
theorem dX5_mostDistance_40 : decode cX5_mostDistance 40 = .ok (.istore 5, 2) := by decide +kernel
theorem dX5_mostDistance_42 : decode cX5_mostDistance 42 = .ok (.aload_n 0, 1) := by decide +kernel
theorem dX5_mostDistance_43 : decode cX5_mostDistance 43 = .ok (.aload 4, 2) := by decide +kernel
theorem dX5_mostDistance_45 : decode cX5_mostDistance 45 = .ok (.getfield 298, 3) := by decide +kernel
theorem dX5_mostDistance_48 : decode cX5_mostDistance 48 = .ok (.invokevirtual 299, 3) := by decide +kernel
theorem dX5_mostDistance_51 : decode cX5_mostDistance 51 = .ok (.aload 4, 2) := by decide +kernel
theorem dX5_mostDistance_53 : decode cX5_mostDistance 53 = .ok (.getfield 302, 3) := by decide +kernel
theorem dX5_mostDistance_56 : decode cX5_mostDistance 56 = .ok (.iload_n 2, 1) := by decide +kernel
theorem dX5_mostDistance_57 : decode cX5_mostDistance 57 = .ok (.isub, 1) := by decide +kernel
theorem dX5_mostDistance_58 : decode cX5_mostDistance 58 = .ok (.iadd, 1) := by decide +kernel
theorem dX5_mostDistance_59 : decode cX5_mostDistance 59 = .ok (.istore 6, 2) := by decide +kernel
theorem dX5_mostDistance_61 : decode cX5_mostDistance 61 = .ok (.iload 5, 2) := by decide +kernel
theorem dX5_mostDistance_63 : decode cX5_mostDistance 63 = .ok (.iload 6, 2) := by decide +kernel
theorem dX5_mostDistance_65 : decode cX5_mostDistance 65 = .ok (.invokestatic 256, 3) := by decide +kernel
theorem dX5_mostDistance_68 : decode cX5_mostDistance 68 = .ok (.ireturn, 1) := by decide +kernel
set_option maxRecDepth 20000 in
theorem ggX5_priceAtEntry_Jx4a65c_size_8abf5 : GoodIn wsX5_priceAtEntry wsJx4a65c_size_8abf5 := goodIn_r _ [14, 15, 71, 72, 73] (by decide +kernel) (by decide +kernel)
set_option maxRecDepth 20000 in
theorem gX5_priceAtEntry_Jx4a65c_size_8abf5_f107Jx4a65c : GoodIn wsX5_priceAtEntry (va_wsF RX5 107 RJx4a65c ⟨"java/util/List", "size", "()I"⟩ yJx4a65c_size_8abf5 wsJx4a65c_size_8abf5) := goodIn_app (goodIn_of _ (by decide +kernel)) ggX5_priceAtEntry_Jx4a65c_size_8abf5
set_option maxRecDepth 20000 in
theorem ggX5_priceAtEntry_Jx4a65c_get_915e3 : GoodIn wsX5_priceAtEntry wsJx4a65c_get_915e3 := goodIn_r _ [19, 15, 20, 21, 22, 23, 24, 25, 26, 27, 28, 29, 30, 13, 31, 32, 71, 72, 73] (by decide +kernel) (by decide +kernel)
set_option maxRecDepth 20000 in
theorem gX5_priceAtEntry_Jx4a65c_get_915e3_f175Jx4a65c : GoodIn wsX5_priceAtEntry (va_wsF RX5 175 RJx4a65c ⟨"java/util/List", "get", "(I)Ljava/lang/Object;"⟩ yJx4a65c_get_915e3 wsJx4a65c_get_915e3) := goodIn_app (goodIn_of _ (by decide +kernel)) ggX5_priceAtEntry_Jx4a65c_get_915e3
set_option maxRecDepth 20000 in
theorem ggX5_priceAtEntry_X3_isHome : GoodIn wsX5_priceAtEntry wsX3_isHome := goodIn_r _ [37, 38, 57, 58, 59, 60, 61, 62, 63, 64, 65, 66, 67, 68, 69, 70] (by decide +kernel) (by decide +kernel)
set_option maxRecDepth 20000 in
theorem gX5_priceAtEntry_X3_isHome : GoodIn wsX5_priceAtEntry (wsV RX5 222 RX3 yX3_isHome wsX3_isHome) := goodIn_app (goodIn_of _ (by decide +kernel)) ggX5_priceAtEntry_X3_isHome
set_option maxRecDepth 20000 in
theorem ggX5_priceAtEntry_X3_entersBefore : GoodIn wsX5_priceAtEntry wsX3_entersBefore := goodIn_r _ [42, 43, 44, 57, 58, 59, 60, 61, 62, 63, 64, 65, 66, 67, 68, 69, 70] (by decide +kernel) (by decide +kernel)
set_option maxRecDepth 20000 in
theorem gX5_priceAtEntry_X3_entersBefore : GoodIn wsX5_priceAtEntry (wsV RX5 303 RX3 yX3_entersBefore wsX3_entersBefore) := goodIn_app (goodIn_of _ (by decide +kernel)) ggX5_priceAtEntry_X3_entersBefore
theorem dX5_priceAtEntry_0 : decode cX5_priceAtEntry 0 = .ok (.iconst 0, 1) := by decide +kernel
theorem dX5_priceAtEntry_1 : decode cX5_priceAtEntry 1 = .ok (.istore_n 2, 1) := by decide +kernel
theorem dX5_priceAtEntry_2 : decode cX5_priceAtEntry 2 = .ok (.iconst 0, 1) := by decide +kernel
theorem dX5_priceAtEntry_3 : decode cX5_priceAtEntry 3 = .ok (.istore_n 3, 1) := by decide +kernel
theorem dX5_priceAtEntry_4 : decode cX5_priceAtEntry 4 = .ok (.iload_n 3, 1) := by decide +kernel
theorem dX5_priceAtEntry_5 : decode cX5_priceAtEntry 5 = .ok (.aload_n 0, 1) := by decide +kernel
theorem dX5_priceAtEntry_6 : decode cX5_priceAtEntry 6 = .ok (.getfield 26, 3) := by decide +kernel
theorem dX5_priceAtEntry_9 : decode cX5_priceAtEntry 9 = .ok (.invokeinterface 107 1, 5) := by decide +kernel
theorem dX5_priceAtEntry_14 : decode cX5_priceAtEntry 14 = .ok (.if_icmp .ge 49, 3) := by decide +kernel
theorem dX5_priceAtEntry_17 : decode cX5_priceAtEntry 17 = .ok (.aload_n 0, 1) := by decide +kernel
theorem dX5_priceAtEntry_18 : decode cX5_priceAtEntry 18 = .ok (.getfield 26, 3) := by decide +kernel
theorem dX5_priceAtEntry_21 : decode cX5_priceAtEntry 21 = .ok (.iload_n 3, 1) := by decide +kernel
theorem dX5_priceAtEntry_22 : decode cX5_priceAtEntry 22 = .ok (.invokeinterface 175 2, 5) := by decide +kernel
theorem dX5_priceAtEntry_27 : decode cX5_priceAtEntry 27 = .ok (.checkcast 113, 3) := by decide +kernel
theorem dX5_priceAtEntry_30 : decode cX5_priceAtEntry 30 = .ok (.astore 4, 2) := by decide +kernel
theorem dX5_priceAtEntry_32 : decode cX5_priceAtEntry 32 = .ok (.aload 4, 2) := by decide +kernel
theorem dX5_priceAtEntry_34 : decode cX5_priceAtEntry 34 = .ok (.invokevirtual 222, 3) := by decide +kernel
theorem dX5_priceAtEntry_37 : decode cX5_priceAtEntry 37 = .ok (.ifCond .eq 20, 3) := by decide +kernel
theorem dX5_priceAtEntry_40 : decode cX5_priceAtEntry 40 = .ok (.aload 4, 2) := by decide +kernel
theorem dX5_priceAtEntry_42 : decode cX5_priceAtEntry 42 = .ok (.aload_n 1, 1) := by decide +kernel
theorem dX5_priceAtEntry_43 : decode cX5_priceAtEntry 43 = .ok (.invokevirtual 303, 3) := by decide +kernel
theorem dX5_priceAtEntry_46 : decode cX5_priceAtEntry 46 = .ok (.ifCond .eq 11, 3) := by decide +kernel
theorem dX5_priceAtEntry_49 : decode cX5_priceAtEntry 49 = .ok (.iload_n 2, 1) := by decide +kernel
theorem dX5_priceAtEntry_50 : decode cX5_priceAtEntry 50 = .ok (.aload 4, 2) := by decide +kernel
theorem dX5_priceAtEntry_52 : decode cX5_priceAtEntry 52 = .ok (.getfield 147, 3) := by decide +kernel
theorem dX5_priceAtEntry_55 : decode cX5_priceAtEntry 55 = .ok (.iadd, 1) := by decide +kernel
theorem dX5_priceAtEntry_56 : decode cX5_priceAtEntry 56 = .ok (.istore_n 2, 1) := by decide +kernel
theorem dX5_priceAtEntry_57 : decode cX5_priceAtEntry 57 = .ok (.iinc 3 1, 3) := by decide +kernel
theorem dX5_priceAtEntry_60 : decode cX5_priceAtEntry 60 = .ok (.goto (-56), 3) := by decide +kernel
theorem dX5_priceAtEntry_63 : decode cX5_priceAtEntry 63 = .ok (.iload_n 2, 1) := by decide +kernel
theorem dX5_priceAtEntry_64 : decode cX5_priceAtEntry 64 = .ok (.bipush 100, 2) := by decide +kernel
theorem dX5_priceAtEntry_66 : decode cX5_priceAtEntry 66 = .ok (.iadd, 1) := by decide +kernel
theorem dX5_priceAtEntry_67 : decode cX5_priceAtEntry 67 = .ok (.iconst 1, 1) := by decide +kernel
theorem dX5_priceAtEntry_68 : decode cX5_priceAtEntry 68 = .ok (.isub, 1) := by decide +kernel
theorem dX5_priceAtEntry_69 : decode cX5_priceAtEntry 69 = .ok (.bipush 100, 2) := by decide +kernel
theorem dX5_priceAtEntry_71 : decode cX5_priceAtEntry 71 = .ok (.idiv, 1) := by decide +kernel
theorem dX5_priceAtEntry_72 : decode cX5_priceAtEntry 72 = .ok (.istore_n 3, 1) := by decide +kernel
theorem dX5_priceAtEntry_73 : decode cX5_priceAtEntry 73 = .ok (.iconst 1, 1) := by decide +kernel
theorem dX5_priceAtEntry_74 : decode cX5_priceAtEntry 74 = .ok (.aload_n 0, 1) := by decide +kernel
theorem dX5_priceAtEntry_75 : decode cX5_priceAtEntry 75 = .ok (.getfield 50, 3) := by decide +kernel
theorem dX5_priceAtEntry_78 : decode cX5_priceAtEntry 78 = .ok (.aload_n 0, 1) := by decide +kernel
theorem dX5_priceAtEntry_79 : decode cX5_priceAtEntry 79 = .ok (.getfield 53, 3) := by decide +kernel
theorem dX5_priceAtEntry_82 : decode cX5_priceAtEntry 82 = .ok (.iload_n 3, 1) := by decide +kernel
theorem dX5_priceAtEntry_83 : decode cX5_priceAtEntry 83 = .ok (.imul, 1) := by decide +kernel
theorem dX5_priceAtEntry_84 : decode cX5_priceAtEntry 84 = .ok (.isub, 1) := by decide +kernel
theorem dX5_priceAtEntry_85 : decode cX5_priceAtEntry 85 = .ok (.invokestatic 288, 3) := by decide +kernel
theorem dX5_priceAtEntry_88 : decode cX5_priceAtEntry 88 = .ok (.ireturn, 1) := by decide +kernel
set_option maxRecDepth 20000 in
theorem ggX5_takings_X5_priceAtEntry : GoodIn wsX5_takings wsX5_priceAtEntry := goodIn_r _ [6, 7, 8, 1, 9, 10, 11, 12, 13, 14, 15, 16, 17, 18, 19, 20, 21, 22, 23, 24, 25, 26, 27, 28, 29, 30, 31, 32, 33, 34, 35, 36, 37, 38, 39, 40, 41, 42, 43, 44, 45, 46, 47, 48, 49, 64, 65, 66, 67, 68, 69, 70, 71, 72, 73, 74, 75, 50, 51, 52, 53, 54, 55, 56, 57, 58, 59, 60, 61, 62, 63, 76, 77, 78] (by decide +kernel) (by decide +kernel)
set_option maxRecDepth 20000 in
theorem gX5_takings_X5_priceAtEntry : GoodIn wsX5_takings (wsV RX5 230 RX5 yX5_priceAtEntry wsX5_priceAtEntry) := goodIn_app (goodIn_of _ (by decide +kernel)) ggX5_takings_X5_priceAtEntry
theorem dX5_takings_0 : decode cX5_takings 0 = .ok (.aload_n 1, 1) := by decide +kernel
theorem dX5_takings_1 : decode cX5_takings 1 = .ok (.getfield 147, 3) := by decide +kernel
theorem dX5_takings_4 : decode cX5_takings 4 = .ok (.i2l, 1) := by decide +kernel
theorem dX5_takings_5 : decode cX5_takings 5 = .ok (.aload_n 0, 1) := by decide +kernel
theorem dX5_takings_6 : decode cX5_takings 6 = .ok (.aload_n 1, 1) := by decide +kernel
theorem dX5_takings_7 : decode cX5_takings 7 = .ok (.invokevirtual 230, 3) := by decide +kernel
theorem dX5_takings_10 : decode cX5_takings 10 = .ok (.i2l, 1) := by decide +kernel
theorem dX5_takings_11 : decode cX5_takings 11 = .ok (.lmul, 1) := by decide +kernel
theorem dX5_takings_12 : decode cX5_takings 12 = .ok (.lreturn, 1) := by decide +kernel
theorem dX6_init_0 : decode cX6_init 0 = .ok (.aload_n 0, 1) := by decide +kernel
theorem dX6_init_1 : decode cX6_init 1 = .ok (.invokespecial 1, 3) := by decide +kernel
theorem dX6_init_4 : decode cX6_init 4 = .ok (.aload_n 0, 1) := by decide +kernel
theorem dX6_init_5 : decode cX6_init 5 = .ok (.bipush 6, 2) := by decide +kernel
theorem dX6_init_7 : decode cX6_init 7 = .ok (.newarray .int, 2) := by decide +kernel
theorem dX6_init_9 : decode cX6_init 9 = .ok (.putfield 7, 3) := by decide +kernel
theorem dX6_init_12 : decode cX6_init 12 = .ok (.aload_n 0, 1) := by decide +kernel
theorem dX6_init_13 : decode cX6_init 13 = .ok (.sipush 160, 3) := by decide +kernel
theorem dX6_init_16 : decode cX6_init 16 = .ok (.newarray .boolean, 2) := by decide +kernel
theorem dX6_init_18 : decode cX6_init 18 = .ok (.putfield 13, 3) := by decide +kernel
theorem dX6_init_21 : decode cX6_init 21 = .ok (.aload_n 0, 1) := by decide +kernel
theorem dX6_init_22 : decode cX6_init 22 = .ok (.bipush 12, 2) := by decide +kernel
theorem dX6_init_24 : decode cX6_init 24 = .ok (.newarray .boolean, 2) := by decide +kernel
theorem dX6_init_26 : decode cX6_init 26 = .ok (.putfield 17, 3) := by decide +kernel
theorem dX6_init_29 : decode cX6_init 29 = .ok (.aload_n 0, 1) := by decide +kernel
theorem dX6_init_30 : decode cX6_init 30 = .ok (.sipush 1920, 3) := by decide +kernel
theorem dX6_init_33 : decode cX6_init 33 = .ok (.newarray .int, 2) := by decide +kernel
theorem dX6_init_35 : decode cX6_init 35 = .ok (.putfield 20, 3) := by decide +kernel
theorem dX6_init_38 : decode cX6_init 38 = .ok (.aload_n 0, 1) := by decide +kernel
theorem dX6_init_39 : decode cX6_init 39 = .ok (.sipush 160, 3) := by decide +kernel
theorem dX6_init_42 : decode cX6_init 42 = .ok (.newarray .int, 2) := by decide +kernel
theorem dX6_init_44 : decode cX6_init 44 = .ok (.putfield 23, 3) := by decide +kernel
theorem dX6_init_47 : decode cX6_init 47 = .ok (.aload_n 0, 1) := by decide +kernel
theorem dX6_init_48 : decode cX6_init 48 = .ok (.bipush 8, 2) := by decide +kernel
theorem dX6_init_50 : decode cX6_init 50 = .ok (.newarray .int, 2) := by decide +kernel
theorem dX6_init_52 : decode cX6_init 52 = .ok (.putfield 26, 3) := by decide +kernel
theorem dX6_init_55 : decode cX6_init 55 = .ok (.aload_n 0, 1) := by decide +kernel
theorem dX6_init_56 : decode cX6_init 56 = .ok (.bipush 8, 2) := by decide +kernel
theorem dX6_init_58 : decode cX6_init 58 = .ok (.newarray .int, 2) := by decide +kernel
theorem dX6_init_60 : decode cX6_init 60 = .ok (.putfield 29, 3) := by decide +kernel
theorem dX6_init_63 : decode cX6_init 63 = .ok (.aload_n 0, 1) := by decide +kernel
theorem dX6_init_64 : decode cX6_init 64 = .ok (.bipush 8, 2) := by decide +kernel
theorem dX6_init_66 : decode cX6_init 66 = .ok (.newarray .int, 2) := by decide +kernel
theorem dX6_init_68 : decode cX6_init 68 = .ok (.putfield 32, 3) := by decide +kernel
theorem dX6_init_71 : decode cX6_init 71 = .ok (.aload_n 0, 1) := by decide +kernel
theorem dX6_init_72 : decode cX6_init 72 = .ok (.bipush 8, 2) := by decide +kernel
theorem dX6_init_74 : decode cX6_init 74 = .ok (.newarray .int, 2) := by decide +kernel
theorem dX6_init_76 : decode cX6_init 76 = .ok (.putfield 35, 3) := by decide +kernel
theorem dX6_init_79 : decode cX6_init 79 = .ok (.aload_n 0, 1) := by decide +kernel
theorem dX6_init_80 : decode cX6_init 80 = .ok (.bipush 8, 2) := by decide +kernel
theorem dX6_init_82 : decode cX6_init 82 = .ok (.newarray .int, 2) := by decide +kernel
theorem dX6_init_84 : decode cX6_init 84 = .ok (.putfield 38, 3) := by decide +kernel
theorem dX6_init_87 : decode cX6_init 87 = .ok (.aload_n 0, 1) := by decide +kernel
theorem dX6_init_88 : decode cX6_init 88 = .ok (.bipush 8, 2) := by decide +kernel
theorem dX6_init_90 : decode cX6_init 90 = .ok (.newarray .int, 2) := by decide +kernel
theorem dX6_init_92 : decode cX6_init 92 = .ok (.putfield 41, 3) := by decide +kernel
theorem dX6_init_95 : decode cX6_init 95 = .ok (.aload_n 0, 1) := by decide +kernel
theorem dX6_init_96 : decode cX6_init 96 = .ok (.bipush 8, 2) := by decide +kernel
theorem dX6_init_98 : decode cX6_init 98 = .ok (.newarray .int, 2) := by decide +kernel
theorem dX6_init_100 : decode cX6_init 100 = .ok (.putfield 44, 3) := by decide +kernel
theorem dX6_init_103 : decode cX6_init 103 = .ok (.aload_n 0, 1) := by decide +kernel
theorem dX6_init_104 : decode cX6_init 104 = .ok (.bipush 8, 2) := by decide +kernel
theorem dX6_init_106 : decode cX6_init 106 = .ok (.newarray .int, 2) := by decide +kernel
theorem dX6_init_108 : decode cX6_init 108 = .ok (.putfield 47, 3) := by decide +kernel
theorem dX6_init_111 : decode cX6_init 111 = .ok (.aload_n 0, 1) := by decide +kernel
theorem dX6_init_112 : decode cX6_init 112 = .ok (.bipush 8, 2) := by decide +kernel
theorem dX6_init_114 : decode cX6_init 114 = .ok (.newarray .int, 2) := by decide +kernel
theorem dX6_init_116 : decode cX6_init 116 = .ok (.putfield 50, 3) := by decide +kernel
theorem dX6_init_119 : decode cX6_init 119 = .ok (.aload_n 0, 1) := by decide +kernel
theorem dX6_init_120 : decode cX6_init 120 = .ok (.sipush 960, 3) := by decide +kernel
theorem dX6_init_123 : decode cX6_init 123 = .ok (.newarray .int, 2) := by decide +kernel
theorem dX6_init_125 : decode cX6_init 125 = .ok (.putfield 53, 3) := by decide +kernel
theorem dX6_init_128 : decode cX6_init 128 = .ok (.aload_n 0, 1) := by decide +kernel
theorem dX6_init_129 : decode cX6_init 129 = .ok (.bipush 8, 2) := by decide +kernel
theorem dX6_init_131 : decode cX6_init 131 = .ok (.newarray .int, 2) := by decide +kernel
theorem dX6_init_133 : decode cX6_init 133 = .ok (.putfield 56, 3) := by decide +kernel
theorem dX6_init_136 : decode cX6_init 136 = .ok (.aload_n 0, 1) := by decide +kernel
theorem dX6_init_137 : decode cX6_init 137 = .ok (.bipush 8, 2) := by decide +kernel
theorem dX6_init_139 : decode cX6_init 139 = .ok (.newarray .int, 2) := by decide +kernel
theorem dX6_init_141 : decode cX6_init 141 = .ok (.putfield 59, 3) := by decide +kernel
theorem dX6_init_144 : decode cX6_init 144 = .ok (.aload_n 0, 1) := by decide +kernel
theorem dX6_init_145 : decode cX6_init 145 = .ok (.sipush 160, 3) := by decide +kernel
theorem dX6_init_148 : decode cX6_init 148 = .ok (.newarray .int, 2) := by decide +kernel
theorem dX6_init_150 : decode cX6_init 150 = .ok (.putfield 62, 3) := by decide +kernel
theorem dX6_init_153 : decode cX6_init 153 = .ok (.aload_n 0, 1) := by decide +kernel
theorem dX6_init_154 : decode cX6_init 154 = .ok (.sipush 160, 3) := by decide +kernel
theorem dX6_init_157 : decode cX6_init 157 = .ok (.newarray .boolean, 2) := by decide +kernel
theorem dX6_init_159 : decode cX6_init 159 = .ok (.putfield 65, 3) := by decide +kernel
theorem dX6_init_162 : decode cX6_init 162 = .ok (.aload_n 0, 1) := by decide +kernel
theorem dX6_init_163 : decode cX6_init 163 = .ok (.bipush 60, 2) := by decide +kernel
theorem dX6_init_165 : decode cX6_init 165 = .ok (.newarray .int, 2) := by decide +kernel
theorem dX6_init_167 : decode cX6_init 167 = .ok (.putfield 68, 3) := by decide +kernel
theorem dX6_init_170 : decode cX6_init 170 = .ok (.aload_n 0, 1) := by decide +kernel
theorem dX6_init_171 : decode cX6_init 171 = .ok (.bipush 60, 2) := by decide +kernel
theorem dX6_init_173 : decode cX6_init 173 = .ok (.newarray .int, 2) := by decide +kernel
theorem dX6_init_175 : decode cX6_init 175 = .ok (.putfield 71, 3) := by decide +kernel
theorem dX6_init_178 : decode cX6_init 178 = .ok (.aload_n 0, 1) := by decide +kernel
theorem dX6_init_179 : decode cX6_init 179 = .ok (.bipush 60, 2) := by decide +kernel
theorem dX6_init_181 : decode cX6_init 181 = .ok (.newarray .int, 2) := by decide +kernel
theorem dX6_init_183 : decode cX6_init 183 = .ok (.putfield 74, 3) := by decide +kernel
theorem dX6_init_186 : decode cX6_init 186 = .ok (.aload_n 0, 1) := by decide +kernel
theorem dX6_init_187 : decode cX6_init 187 = .ok (.bipush 100, 2) := by decide +kernel
theorem dX6_init_189 : decode cX6_init 189 = .ok (.putfield 77, 3) := by decide +kernel
theorem dX6_init_192 : decode cX6_init 192 = .ok (.aload_n 0, 1) := by decide +kernel
theorem dX6_init_193 : decode cX6_init 193 = .ok (.iconst 1, 1) := by decide +kernel
theorem dX6_init_194 : decode cX6_init 194 = .ok (.putfield 81, 3) := by decide +kernel
theorem dX6_init_197 : decode cX6_init 197 = .ok (.return_, 1) := by decide +kernel
theorem dX6_in_0 : decode cX6_in 0 = .ok (.iload_n 0, 1) := by decide +kernel
theorem dX6_in_1 : decode cX6_in 1 = .ok (.iload_n 1, 1) := by decide +kernel
theorem dX6_in_2 : decode cX6_in 2 = .ok (.if_icmp .lt 12, 3) := by decide +kernel
theorem dX6_in_5 : decode cX6_in 5 = .ok (.iload_n 0, 1) := by decide +kernel
theorem dX6_in_6 : decode cX6_in 6 = .ok (.iload_n 2, 1) := by decide +kernel
theorem dX6_in_7 : decode cX6_in 7 = .ok (.if_icmp .gt 7, 3) := by decide +kernel
theorem dX6_in_10 : decode cX6_in 10 = .ok (.iconst 1, 1) := by decide +kernel
theorem dX6_in_11 : decode cX6_in 11 = .ok (.goto 4, 3) := by decide +kernel
theorem dX6_in_14 : decode cX6_in 14 = .ok (.iconst 0, 1) := by decide +kernel
theorem dX6_in_15 : decode cX6_in 15 = .ok (.ireturn, 1) := by decide +kernel
theorem dX6_meets_0 : decode cX6_meets 0 = .ok (.aload_n 0, 1) := by decide +kernel
theorem dX6_meets_1 : decode cX6_meets 1 = .ok (.iload_n 1, 1) := by decide +kernel
theorem dX6_meets_2 : decode cX6_meets 2 = .ok (.putfield 84, 3) := by decide +kernel
theorem dX6_meets_5 : decode cX6_meets 5 = .ok (.aload_n 0, 1) := by decide +kernel
theorem dX6_meets_6 : decode cX6_meets 6 = .ok (.getfield 7, 3) := by decide +kernel
theorem dX6_meets_9 : decode cX6_meets 9 = .ok (.iload_n 1, 1) := by decide +kernel
theorem dX6_meets_10 : decode cX6_meets 10 = .ok (.dup2, 1) := by decide +kernel
theorem dX6_meets_11 : decode cX6_meets 11 = .ok (.iaload, 1) := by decide +kernel
theorem dX6_meets_12 : decode cX6_meets 12 = .ok (.iconst 1, 1) := by decide +kernel
theorem dX6_meets_13 : decode cX6_meets 13 = .ok (.iadd, 1) := by decide +kernel
theorem dX6_meets_14 : decode cX6_meets 14 = .ok (.iastore, 1) := by decide +kernel
theorem dX6_meets_15 : decode cX6_meets 15 = .ok (.bipush (-3), 2) := by decide +kernel
theorem dX6_meets_17 : decode cX6_meets 17 = .ok (.ireturn, 1) := by decide +kernel
set_option maxRecDepth 20000 in
theorem ggX6_isCell_X6_in : GoodIn wsX6_isCell wsX6_in := goodIn_r _ [4] (by decide +kernel) (by decide +kernel)
set_option maxRecDepth 20000 in
theorem gX6_isCell_X6_in : GoodIn wsX6_isCell (va_wsS RX6 87 yX6_in wsX6_in) := goodIn_app (goodIn_of _ (by decide +kernel)) ggX6_isCell_X6_in
theorem dX6_isCell_0 : decode cX6_isCell 0 = .ok (.iload_n 0, 1) := by decide +kernel
theorem dX6_isCell_1 : decode cX6_isCell 1 = .ok (.iconst 0, 1) := by decide +kernel
theorem dX6_isCell_2 : decode cX6_isCell 2 = .ok (.sipush 159, 3) := by decide +kernel
theorem dX6_isCell_5 : decode cX6_isCell 5 = .ok (.invokestatic 87, 3) := by decide +kernel
theorem dX6_isCell_8 : decode cX6_isCell 8 = .ok (.ireturn, 1) := by decide +kernel
set_option maxRecDepth 20000 in
theorem ggX6_isMonth_X6_in : GoodIn wsX6_isMonth wsX6_in := goodIn_r _ [4] (by decide +kernel) (by decide +kernel)
set_option maxRecDepth 20000 in
theorem gX6_isMonth_X6_in : GoodIn wsX6_isMonth (va_wsS RX6 87 yX6_in wsX6_in) := goodIn_app (goodIn_of _ (by decide +kernel)) ggX6_isMonth_X6_in
theorem dX6_isMonth_0 : decode cX6_isMonth 0 = .ok (.iload_n 0, 1) := by decide +kernel
theorem dX6_isMonth_1 : decode cX6_isMonth 1 = .ok (.iconst 0, 1) := by decide +kernel
theorem dX6_isMonth_2 : decode cX6_isMonth 2 = .ok (.bipush 11, 2) := by decide +kernel
theorem dX6_isMonth_4 : decode cX6_isMonth 4 = .ok (.invokestatic 87, 3) := by decide +kernel
theorem dX6_isMonth_7 : decode cX6_isMonth 7 = .ok (.ireturn, 1) := by decide +kernel
set_option maxRecDepth 20000 in
theorem ggX6_land_X6_isCell : GoodIn wsX6_land wsX6_isCell := goodIn_r _ [5, 6, 7, 4, 8] (by decide +kernel) (by decide +kernel)
set_option maxRecDepth 20000 in
theorem gX6_land_X6_isCell : GoodIn wsX6_land (va_wsS RX6 91 yX6_isCell wsX6_isCell) := goodIn_app (goodIn_of _ (by decide +kernel)) ggX6_land_X6_isCell
theorem dX6_land_0 : decode cX6_land 0 = .ok (.iload_n 1, 1) := by decide +kernel
theorem dX6_land_1 : decode cX6_land 1 = .ok (.invokestatic 91, 3) := by decide +kernel
theorem dX6_land_4 : decode cX6_land 4 = .ok (.ifCond .ne 5, 3) := by decide +kernel
theorem dX6_land_7 : decode cX6_land 7 = .ok (.iconst (-1), 1) := by decide +kernel
theorem dX6_land_8 : decode cX6_land 8 = .ok (.ireturn, 1) := by decide +kernel
theorem dX6_land_9 : decode cX6_land 9 = .ok (.aload_n 0, 1) := by decide +kernel
theorem dX6_land_10 : decode cX6_land 10 = .ok (.getfield 13, 3) := by decide +kernel
theorem dX6_land_13 : decode cX6_land 13 = .ok (.iload_n 1, 1) := by decide +kernel
theorem dX6_land_14 : decode cX6_land 14 = .ok (.baload, 1) := by decide +kernel
theorem dX6_land_15 : decode cX6_land 15 = .ok (.ifCond .eq 7, 3) := by decide +kernel
theorem dX6_land_18 : decode cX6_land 18 = .ok (.iconst 1, 1) := by decide +kernel
theorem dX6_land_19 : decode cX6_land 19 = .ok (.goto 4, 3) := by decide +kernel
theorem dX6_land_22 : decode cX6_land 22 = .ok (.iconst 0, 1) := by decide +kernel
theorem dX6_land_23 : decode cX6_land 23 = .ok (.istore_n 3, 1) := by decide +kernel
theorem dX6_land_24 : decode cX6_land 24 = .ok (.aload_n 0, 1) := by decide +kernel
theorem dX6_land_25 : decode cX6_land 25 = .ok (.getfield 13, 3) := by decide +kernel
theorem dX6_land_28 : decode cX6_land 28 = .ok (.iload_n 1, 1) := by decide +kernel
theorem dX6_land_29 : decode cX6_land 29 = .ok (.iload_n 2, 1) := by decide +kernel
theorem dX6_land_30 : decode cX6_land 30 = .ok (.bastore, 1) := by decide +kernel
theorem dX6_land_31 : decode cX6_land 31 = .ok (.iload_n 3, 1) := by decide +kernel
theorem dX6_land_32 : decode cX6_land 32 = .ok (.ireturn, 1) := by decide +kernel
set_option maxRecDepth 20000 in
theorem ggX6_looked_X6_isMonth : GoodIn wsX6_looked wsX6_isMonth := goodIn_r _ [5, 6, 7, 4, 8] (by decide +kernel) (by decide +kernel)
set_option maxRecDepth 20000 in
theorem gX6_looked_X6_isMonth : GoodIn wsX6_looked (va_wsS RX6 95 yX6_isMonth wsX6_isMonth) := goodIn_app (goodIn_of _ (by decide +kernel)) ggX6_looked_X6_isMonth
set_option maxRecDepth 20000 in
theorem ggX6_looked_X6_meets : GoodIn wsX6_looked wsX6_meets := goodIn_r _ [12, 13, 14, 15, 16, 17, 18, 19, 20, 21, 22, 23, 24, 25, 26, 27, 28, 29, 30, 31, 32, 33, 34, 35, 36, 37, 38, 39, 40, 41, 42, 43, 44, 45] (by decide +kernel) (by decide +kernel)
set_option maxRecDepth 20000 in
theorem gX6_looked_X6_meets : GoodIn wsX6_looked (wsV RX6 98 RX6 yX6_meets wsX6_meets) := goodIn_app (goodIn_of _ (by decide +kernel)) ggX6_looked_X6_meets
theorem dX6_looked_0 : decode cX6_looked 0 = .ok (.iload_n 1, 1) := by decide +kernel
theorem dX6_looked_1 : decode cX6_looked 1 = .ok (.invokestatic 95, 3) := by decide +kernel
theorem dX6_looked_4 : decode cX6_looked 4 = .ok (.ifCond .ne 7, 3) := by decide +kernel
theorem dX6_looked_7 : decode cX6_looked 7 = .ok (.iconst (-1), 1) := by decide +kernel
theorem dX6_looked_8 : decode cX6_looked 8 = .ok (.goto 21, 3) := by decide +kernel
theorem dX6_looked_11 : decode cX6_looked 11 = .ok (.aload_n 0, 1) := by decide +kernel
theorem dX6_looked_12 : decode cX6_looked 12 = .ok (.getfield 17, 3) := by decide +kernel
theorem dX6_looked_15 : decode cX6_looked 15 = .ok (.iload_n 1, 1) := by decide +kernel
theorem dX6_looked_16 : decode cX6_looked 16 = .ok (.baload, 1) := by decide +kernel
theorem dX6_looked_17 : decode cX6_looked 17 = .ok (.ifCond .eq 7, 3) := by decide +kernel
theorem dX6_looked_20 : decode cX6_looked 20 = .ok (.iconst 0, 1) := by decide +kernel
theorem dX6_looked_21 : decode cX6_looked 21 = .ok (.goto 8, 3) := by decide +kernel
theorem dX6_looked_24 : decode cX6_looked 24 = .ok (.aload_n 0, 1) := by decide +kernel
theorem dX6_looked_25 : decode cX6_looked 25 = .ok (.iconst 1, 1) := by decide +kernel
theorem dX6_looked_26 : decode cX6_looked 26 = .ok (.invokevirtual 98, 3) := by decide +kernel
theorem dX6_looked_29 : decode cX6_looked 29 = .ok (.ireturn, 1) := by decide +kernel
set_option maxRecDepth 20000 in
theorem ggX6_chart_X6_isMonth : GoodIn wsX6_chart wsX6_isMonth := goodIn_r _ [6, 7, 8, 5, 9] (by decide +kernel) (by decide +kernel)
set_option maxRecDepth 20000 in
theorem gX6_chart_X6_isMonth : GoodIn wsX6_chart (va_wsS RX6 95 yX6_isMonth wsX6_isMonth) := goodIn_app (goodIn_of _ (by decide +kernel)) ggX6_chart_X6_isMonth
theorem dX6_chart_0 : decode cX6_chart 0 = .ok (.iload_n 1, 1) := by decide +kernel
theorem dX6_chart_1 : decode cX6_chart 1 = .ok (.invokestatic 95, 3) := by decide +kernel
theorem dX6_chart_4 : decode cX6_chart 4 = .ok (.ifCond .ne 5, 3) := by decide +kernel
theorem dX6_chart_7 : decode cX6_chart 7 = .ok (.iconst (-1), 1) := by decide +kernel
theorem dX6_chart_8 : decode cX6_chart 8 = .ok (.ireturn, 1) := by decide +kernel
theorem dX6_chart_9 : decode cX6_chart 9 = .ok (.aload_n 0, 1) := by decide +kernel
theorem dX6_chart_10 : decode cX6_chart 10 = .ok (.getfield 17, 3) := by decide +kernel
theorem dX6_chart_13 : decode cX6_chart 13 = .ok (.iload_n 1, 1) := by decide +kernel
theorem dX6_chart_14 : decode cX6_chart 14 = .ok (.baload, 1) := by decide +kernel
theorem dX6_chart_15 : decode cX6_chart 15 = .ok (.ifCond .eq 7, 3) := by decide +kernel
theorem dX6_chart_18 : decode cX6_chart 18 = .ok (.iconst 1, 1) := by decide +kernel
theorem dX6_chart_19 : decode cX6_chart 19 = .ok (.goto 4, 3) := by decide +kernel
theorem dX6_chart_22 : decode cX6_chart 22 = .ok (.iconst 0, 1) := by decide +kernel
theorem dX6_chart_23 : decode cX6_chart 23 = .ok (.istore_n 2, 1) := by decide +kernel
theorem dX6_chart_24 : decode cX6_chart 24 = .ok (.aload_n 0, 1) := by decide +kernel
theorem dX6_chart_25 : decode cX6_chart 25 = .ok (.getfield 17, 3) := by decide +kernel
theorem dX6_chart_28 : decode cX6_chart 28 = .ok (.iload_n 1, 1) := by decide +kernel
theorem dX6_chart_29 : decode cX6_chart 29 = .ok (.iconst 1, 1) := by decide +kernel
theorem dX6_chart_30 : decode cX6_chart 30 = .ok (.bastore, 1) := by decide +kernel
theorem dX6_chart_31 : decode cX6_chart 31 = .ok (.iconst 0, 1) := by decide +kernel
theorem dX6_chart_32 : decode cX6_chart 32 = .ok (.istore_n 3, 1) := by decide +kernel
theorem dX6_chart_33 : decode cX6_chart 33 = .ok (.iload_n 3, 1) := by decide +kernel
theorem dX6_chart_34 : decode cX6_chart 34 = .ok (.sipush 160, 3) := by decide +kernel
theorem dX6_chart_37 : decode cX6_chart 37 = .ok (.if_icmp .ge 22, 3) := by decide +kernel
theorem dX6_chart_40 : decode cX6_chart 40 = .ok (.aload_n 0, 1) := by decide +kernel
theorem dX6_chart_41 : decode cX6_chart 41 = .ok (.getfield 20, 3) := by decide +kernel
theorem dX6_chart_44 : decode cX6_chart 44 = .ok (.sipush 160, 3) := by decide +kernel
theorem dX6_chart_47 : decode cX6_chart 47 = .ok (.iload_n 1, 1) := by decide +kernel
theorem dX6_chart_48 : decode cX6_chart 48 = .ok (.imul, 1) := by decide +kernel
theorem dX6_chart_49 : decode cX6_chart 49 = .ok (.iload_n 3, 1) := by decide +kernel
theorem dX6_chart_50 : decode cX6_chart 50 = .ok (.iadd, 1) := by decide +kernel
theorem dX6_chart_51 : decode cX6_chart 51 = .ok (.iconst 0, 1) := by decide +kernel
theorem dX6_chart_52 : decode cX6_chart 52 = .ok (.iastore, 1) := by decide +kernel
theorem dX6_chart_53 : decode cX6_chart 53 = .ok (.iinc 3 1, 3) := by decide +kernel
theorem dX6_chart_56 : decode cX6_chart 56 = .ok (.goto (-23), 3) := by decide +kernel
theorem dX6_chart_59 : decode cX6_chart 59 = .ok (.iload_n 2, 1) := by decide +kernel
theorem dX6_chart_60 : decode cX6_chart 60 = .ok (.ireturn, 1) := by decide +kernel
set_option maxRecDepth 20000 in
theorem ggX6_wind_X6_looked : GoodIn wsX6_wind wsX6_looked := goodIn_r _ [6, 7, 8, 9, 5, 10, 11, 12, 13, 14, 15, 16, 17, 18, 19, 23, 24, 25, 26, 27, 28, 29, 30, 31, 32, 33, 34, 35, 36, 37, 38, 39, 40, 41, 42, 43, 44, 45, 46, 47, 48, 49, 50, 51, 52, 53] (by decide +kernel) (by decide +kernel)
set_option maxRecDepth 20000 in
theorem gX6_wind_X6_looked : GoodIn wsX6_wind (wsV RX6 102 RX6 yX6_looked wsX6_looked) := goodIn_app (goodIn_of _ (by decide +kernel)) ggX6_wind_X6_looked
set_option maxRecDepth 20000 in
theorem ggX6_wind_X6_isCell : GoodIn wsX6_wind wsX6_isCell := goodIn_r _ [22, 11, 12, 5, 13] (by decide +kernel) (by decide +kernel)
set_option maxRecDepth 20000 in
theorem gX6_wind_X6_isCell : GoodIn wsX6_wind (va_wsS RX6 91 yX6_isCell wsX6_isCell) := goodIn_app (goodIn_of _ (by decide +kernel)) ggX6_wind_X6_isCell
set_option maxRecDepth 20000 in
theorem ggX6_wind_X6_meets : GoodIn wsX6_wind wsX6_meets := goodIn_r _ [17, 18, 19, 23, 24, 25, 26, 27, 28, 29, 30, 31, 32, 33, 34, 35, 36, 37, 38, 39, 40, 41, 42, 43, 44, 45, 46, 47, 48, 49, 50, 51, 52, 53] (by decide +kernel) (by decide +kernel)
set_option maxRecDepth 20000 in
theorem gX6_wind_X6_meets : GoodIn wsX6_wind (wsV RX6 98 RX6 yX6_meets wsX6_meets) := goodIn_app (goodIn_of _ (by decide +kernel)) ggX6_wind_X6_meets
theorem dX6_wind_0 : decode cX6_wind 0 = .ok (.aload_n 0, 1) := by decide +kernel
theorem dX6_wind_1 : decode cX6_wind 1 = .ok (.iload_n 1, 1) := by decide +kernel
theorem dX6_wind_2 : decode cX6_wind 2 = .ok (.invokevirtual 102, 3) := by decide +kernel
theorem dX6_wind_5 : decode cX6_wind 5 = .ok (.istore 4, 2) := by decide +kernel
theorem dX6_wind_7 : decode cX6_wind 7 = .ok (.iload 4, 2) := by decide +kernel
theorem dX6_wind_9 : decode cX6_wind 9 = .ok (.ifCond .ge 6, 3) := by decide +kernel
theorem dX6_wind_12 : decode cX6_wind 12 = .ok (.iload 4, 2) := by decide +kernel
theorem dX6_wind_14 : decode cX6_wind 14 = .ok (.ireturn, 1) := by decide +kernel
theorem dX6_wind_15 : decode cX6_wind 15 = .ok (.iload_n 2, 1) := by decide +kernel
theorem dX6_wind_16 : decode cX6_wind 16 = .ok (.invokestatic 91, 3) := by decide +kernel
theorem dX6_wind_19 : decode cX6_wind 19 = .ok (.ifCond .ne 9, 3) := by decide +kernel
theorem dX6_wind_22 : decode cX6_wind 22 = .ok (.aload_n 0, 1) := by decide +kernel
theorem dX6_wind_23 : decode cX6_wind 23 = .ok (.iconst 2, 1) := by decide +kernel
theorem dX6_wind_24 : decode cX6_wind 24 = .ok (.invokevirtual 98, 3) := by decide +kernel
theorem dX6_wind_27 : decode cX6_wind 27 = .ok (.ireturn, 1) := by decide +kernel
theorem dX6_wind_28 : decode cX6_wind 28 = .ok (.aload_n 0, 1) := by decide +kernel
theorem dX6_wind_29 : decode cX6_wind 29 = .ok (.getfield 20, 3) := by decide +kernel
theorem dX6_wind_32 : decode cX6_wind 32 = .ok (.sipush 160, 3) := by decide +kernel
theorem dX6_wind_35 : decode cX6_wind 35 = .ok (.iload_n 1, 1) := by decide +kernel
theorem dX6_wind_36 : decode cX6_wind 36 = .ok (.imul, 1) := by decide +kernel
theorem dX6_wind_37 : decode cX6_wind 37 = .ok (.iload_n 2, 1) := by decide +kernel
theorem dX6_wind_38 : decode cX6_wind 38 = .ok (.iadd, 1) := by decide +kernel
theorem dX6_wind_39 : decode cX6_wind 39 = .ok (.iaload, 1) := by decide +kernel
theorem dX6_wind_40 : decode cX6_wind 40 = .ok (.istore 5, 2) := by decide +kernel
theorem dX6_wind_42 : decode cX6_wind 42 = .ok (.aload_n 0, 1) := by decide +kernel
theorem dX6_wind_43 : decode cX6_wind 43 = .ok (.getfield 20, 3) := by decide +kernel
theorem dX6_wind_46 : decode cX6_wind 46 = .ok (.sipush 160, 3) := by decide +kernel
theorem dX6_wind_49 : decode cX6_wind 49 = .ok (.iload_n 1, 1) := by decide +kernel
theorem dX6_wind_50 : decode cX6_wind 50 = .ok (.imul, 1) := by decide +kernel
theorem dX6_wind_51 : decode cX6_wind 51 = .ok (.iload_n 2, 1) := by decide +kernel
theorem dX6_wind_52 : decode cX6_wind 52 = .ok (.iadd, 1) := by decide +kernel
theorem dX6_wind_53 : decode cX6_wind 53 = .ok (.iload_n 3, 1) := by decide +kernel
theorem dX6_wind_54 : decode cX6_wind 54 = .ok (.i2b, 1) := by decide +kernel
theorem dX6_wind_55 : decode cX6_wind 55 = .ok (.iastore, 1) := by decide +kernel
theorem dX6_wind_56 : decode cX6_wind 56 = .ok (.iload 5, 2) := by decide +kernel
theorem dX6_wind_58 : decode cX6_wind 58 = .ok (.sipush 1000, 3) := by decide +kernel
theorem dX6_wind_61 : decode cX6_wind 61 = .ok (.iadd, 1) := by decide +kernel
theorem dX6_wind_62 : decode cX6_wind 62 = .ok (.ireturn, 1) := by decide +kernel
set_option maxRecDepth 20000 in
theorem ggX6_tear_X6_looked : GoodIn wsX6_tear wsX6_looked := goodIn_r _ [6, 1, 7, 8, 5, 9, 10, 11, 12, 13, 14, 15, 16, 17, 18, 19, 20, 21, 22, 23, 24, 25, 26, 27, 28, 29, 30, 31, 32, 33, 34, 35, 36, 37, 38, 39, 40, 41, 42, 43, 44, 45, 46, 47, 48, 49] (by decide +kernel) (by decide +kernel)
set_option maxRecDepth 20000 in
theorem gX6_tear_X6_looked : GoodIn wsX6_tear (wsV RX6 102 RX6 yX6_looked wsX6_looked) := goodIn_app (goodIn_of _ (by decide +kernel)) ggX6_tear_X6_looked
theorem dX6_tear_0 : decode cX6_tear 0 = .ok (.aload_n 0, 1) := by decide +kernel
theorem dX6_tear_1 : decode cX6_tear 1 = .ok (.iload_n 1, 1) := by decide +kernel
theorem dX6_tear_2 : decode cX6_tear 2 = .ok (.invokevirtual 102, 3) := by decide +kernel
theorem dX6_tear_5 : decode cX6_tear 5 = .ok (.istore_n 2, 1) := by decide +kernel
theorem dX6_tear_6 : decode cX6_tear 6 = .ok (.iload_n 2, 1) := by decide +kernel
theorem dX6_tear_7 : decode cX6_tear 7 = .ok (.ifCond .ge 5, 3) := by decide +kernel
theorem dX6_tear_10 : decode cX6_tear 10 = .ok (.iload_n 2, 1) := by decide +kernel
theorem dX6_tear_11 : decode cX6_tear 11 = .ok (.ireturn, 1) := by decide +kernel
theorem dX6_tear_12 : decode cX6_tear 12 = .ok (.aload_n 0, 1) := by decide +kernel
theorem dX6_tear_13 : decode cX6_tear 13 = .ok (.getfield 17, 3) := by decide +kernel
theorem dX6_tear_16 : decode cX6_tear 16 = .ok (.iload_n 1, 1) := by decide +kernel
theorem dX6_tear_17 : decode cX6_tear 17 = .ok (.iconst 0, 1) := by decide +kernel
theorem dX6_tear_18 : decode cX6_tear 18 = .ok (.bastore, 1) := by decide +kernel
theorem dX6_tear_19 : decode cX6_tear 19 = .ok (.iconst 1, 1) := by decide +kernel
theorem dX6_tear_20 : decode cX6_tear 20 = .ok (.ireturn, 1) := by decide +kernel
set_option maxRecDepth 20000 in
theorem ggX6_copy_X6_isMonth : GoodIn wsX6_copy wsX6_isMonth := goodIn_r _ [8, 9, 10, 7, 11] (by decide +kernel) (by decide +kernel)
set_option maxRecDepth 20000 in
theorem gX6_copy_X6_isMonth : GoodIn wsX6_copy (va_wsS RX6 95 yX6_isMonth wsX6_isMonth) := goodIn_app (goodIn_of _ (by decide +kernel)) ggX6_copy_X6_isMonth
set_option maxRecDepth 20000 in
theorem ggX6_copy_X6_meets : GoodIn wsX6_copy wsX6_meets := goodIn_r _ [15, 16, 17, 18, 19, 20, 21, 22, 23, 24, 25, 26, 27, 28, 29, 30, 31, 32, 33, 34, 35, 36, 37, 38, 39, 40, 41, 42, 43, 44, 45, 46, 47, 48] (by decide +kernel) (by decide +kernel)
set_option maxRecDepth 20000 in
theorem gX6_copy_X6_meets : GoodIn wsX6_copy (wsV RX6 98 RX6 yX6_meets wsX6_meets) := goodIn_app (goodIn_of _ (by decide +kernel)) ggX6_copy_X6_meets
theorem dX6_copy_0 : decode cX6_copy 0 = .ok (.iload_n 1, 1) := by decide +kernel
theorem dX6_copy_1 : decode cX6_copy 1 = .ok (.invokestatic 95, 3) := by decide +kernel
theorem dX6_copy_4 : decode cX6_copy 4 = .ok (.ifCond .eq 10, 3) := by decide +kernel
theorem dX6_copy_7 : decode cX6_copy 7 = .ok (.iload_n 3, 1) := by decide +kernel
theorem dX6_copy_8 : decode cX6_copy 8 = .ok (.invokestatic 95, 3) := by decide +kernel
theorem dX6_copy_11 : decode cX6_copy 11 = .ok (.ifCond .ne 5, 3) := by decide +kernel
theorem dX6_copy_14 : decode cX6_copy 14 = .ok (.iconst (-1), 1) := by decide +kernel
theorem dX6_copy_15 : decode cX6_copy 15 = .ok (.ireturn, 1) := by decide +kernel
theorem dX6_copy_16 : decode cX6_copy 16 = .ok (.iload 5, 2) := by decide +kernel
theorem dX6_copy_18 : decode cX6_copy 18 = .ok (.ifCond .ge 9, 3) := by decide +kernel
theorem dX6_copy_21 : decode cX6_copy 21 = .ok (.aload_n 0, 1) := by decide +kernel
theorem dX6_copy_22 : decode cX6_copy 22 = .ok (.iconst 5, 1) := by decide +kernel
theorem dX6_copy_23 : decode cX6_copy 23 = .ok (.invokevirtual 98, 3) := by decide +kernel
theorem dX6_copy_26 : decode cX6_copy 26 = .ok (.ireturn, 1) := by decide +kernel
theorem dX6_copy_27 : decode cX6_copy 27 = .ok (.aload_n 0, 1) := by decide +kernel
theorem dX6_copy_28 : decode cX6_copy 28 = .ok (.getfield 17, 3) := by decide +kernel
theorem dX6_copy_31 : decode cX6_copy 31 = .ok (.iload_n 1, 1) := by decide +kernel
theorem dX6_copy_32 : decode cX6_copy 32 = .ok (.baload, 1) := by decide +kernel
theorem dX6_copy_33 : decode cX6_copy 33 = .ok (.ifCond .eq 12, 3) := by decide +kernel
theorem dX6_copy_36 : decode cX6_copy 36 = .ok (.aload_n 0, 1) := by decide +kernel
theorem dX6_copy_37 : decode cX6_copy 37 = .ok (.getfield 17, 3) := by decide +kernel
theorem dX6_copy_40 : decode cX6_copy 40 = .ok (.iload_n 3, 1) := by decide +kernel
theorem dX6_copy_41 : decode cX6_copy 41 = .ok (.baload, 1) := by decide +kernel
theorem dX6_copy_42 : decode cX6_copy 42 = .ok (.ifCond .ne 9, 3) := by decide +kernel
theorem dX6_copy_45 : decode cX6_copy 45 = .ok (.aload_n 0, 1) := by decide +kernel
theorem dX6_copy_46 : decode cX6_copy 46 = .ok (.iconst 1, 1) := by decide +kernel
theorem dX6_copy_47 : decode cX6_copy 47 = .ok (.invokevirtual 98, 3) := by decide +kernel
theorem dX6_copy_50 : decode cX6_copy 50 = .ok (.ireturn, 1) := by decide +kernel
theorem dX6_copy_51 : decode cX6_copy 51 = .ok (.iload_n 2, 1) := by decide +kernel
theorem dX6_copy_52 : decode cX6_copy 52 = .ok (.ifCond .lt 35, 3) := by decide +kernel
theorem dX6_copy_55 : decode cX6_copy 55 = .ok (.iload 4, 2) := by decide +kernel
theorem dX6_copy_57 : decode cX6_copy 57 = .ok (.ifCond .lt 30, 3) := by decide +kernel
theorem dX6_copy_60 : decode cX6_copy 60 = .ok (.iload_n 2, 1) := by decide +kernel
theorem dX6_copy_61 : decode cX6_copy 61 = .ok (.i2l, 1) := by decide +kernel
theorem dX6_copy_62 : decode cX6_copy 62 = .ok (.iload 5, 2) := by decide +kernel
theorem dX6_copy_64 : decode cX6_copy 64 = .ok (.i2l, 1) := by decide +kernel
theorem dX6_copy_65 : decode cX6_copy 65 = .ok (.ladd, 1) := by decide +kernel
theorem dX6_copy_66 : decode cX6_copy 66 = .ok (.ldc2_w 105, 3) := by decide +kernel
theorem dX6_copy_69 : decode cX6_copy 69 = .ok (.lcmp, 1) := by decide +kernel
theorem dX6_copy_70 : decode cX6_copy 70 = .ok (.ifCond .gt 17, 3) := by decide +kernel
theorem dX6_copy_73 : decode cX6_copy 73 = .ok (.iload 4, 2) := by decide +kernel
theorem dX6_copy_75 : decode cX6_copy 75 = .ok (.i2l, 1) := by decide +kernel
theorem dX6_copy_76 : decode cX6_copy 76 = .ok (.iload 5, 2) := by decide +kernel
theorem dX6_copy_78 : decode cX6_copy 78 = .ok (.i2l, 1) := by decide +kernel
theorem dX6_copy_79 : decode cX6_copy 79 = .ok (.ladd, 1) := by decide +kernel
theorem dX6_copy_80 : decode cX6_copy 80 = .ok (.ldc2_w 105, 3) := by decide +kernel
theorem dX6_copy_83 : decode cX6_copy 83 = .ok (.lcmp, 1) := by decide +kernel
theorem dX6_copy_84 : decode cX6_copy 84 = .ok (.ifCond .le 9, 3) := by decide +kernel
theorem dX6_copy_87 : decode cX6_copy 87 = .ok (.aload_n 0, 1) := by decide +kernel
theorem dX6_copy_88 : decode cX6_copy 88 = .ok (.iconst 2, 1) := by decide +kernel
theorem dX6_copy_89 : decode cX6_copy 89 = .ok (.invokevirtual 98, 3) := by decide +kernel
theorem dX6_copy_92 : decode cX6_copy 92 = .ok (.ireturn, 1) := by decide +kernel
theorem dX6_copy_93 : decode cX6_copy 93 = .ok (.iconst 0, 1) := by decide +kernel
theorem dX6_copy_94 : decode cX6_copy 94 = .ok (.istore 6, 2) := by decide +kernel
theorem dX6_copy_96 : decode cX6_copy 96 = .ok (.iload 6, 2) := by decide +kernel
theorem dX6_copy_98 : decode cX6_copy 98 = .ok (.iload 5, 2) := by decide +kernel
theorem dX6_copy_100 : decode cX6_copy 100 = .ok (.if_icmp .ge 31, 3) := by decide +kernel
theorem dX6_copy_103 : decode cX6_copy 103 = .ok (.aload_n 0, 1) := by decide +kernel
theorem dX6_copy_104 : decode cX6_copy 104 = .ok (.getfield 23, 3) := by decide +kernel
theorem dX6_copy_107 : decode cX6_copy 107 = .ok (.iload 6, 2) := by decide +kernel
theorem dX6_copy_109 : decode cX6_copy 109 = .ok (.aload_n 0, 1) := by decide +kernel
theorem dX6_copy_110 : decode cX6_copy 110 = .ok (.getfield 20, 3) := by decide +kernel
theorem dX6_copy_113 : decode cX6_copy 113 = .ok (.sipush 160, 3) := by decide +kernel
theorem dX6_copy_116 : decode cX6_copy 116 = .ok (.iload_n 1, 1) := by decide +kernel
theorem dX6_copy_117 : decode cX6_copy 117 = .ok (.imul, 1) := by decide +kernel
theorem dX6_copy_118 : decode cX6_copy 118 = .ok (.iload_n 2, 1) := by decide +kernel
theorem dX6_copy_119 : decode cX6_copy 119 = .ok (.iadd, 1) := by decide +kernel
theorem dX6_copy_120 : decode cX6_copy 120 = .ok (.iload 6, 2) := by decide +kernel
theorem dX6_copy_122 : decode cX6_copy 122 = .ok (.iadd, 1) := by decide +kernel
theorem dX6_copy_123 : decode cX6_copy 123 = .ok (.iaload, 1) := by decide +kernel
theorem dX6_copy_124 : decode cX6_copy 124 = .ok (.iastore, 1) := by decide +kernel
theorem dX6_copy_125 : decode cX6_copy 125 = .ok (.iinc 6 1, 3) := by decide +kernel
theorem dX6_copy_128 : decode cX6_copy 128 = .ok (.goto (-32), 3) := by decide +kernel
theorem dX6_copy_131 : decode cX6_copy 131 = .ok (.iconst 0, 1) := by decide +kernel
theorem dX6_copy_132 : decode cX6_copy 132 = .ok (.istore 6, 2) := by decide +kernel
theorem dX6_copy_134 : decode cX6_copy 134 = .ok (.iload 6, 2) := by decide +kernel
theorem dX6_copy_136 : decode cX6_copy 136 = .ok (.iload 5, 2) := by decide +kernel
theorem dX6_copy_138 : decode cX6_copy 138 = .ok (.if_icmp .ge 32, 3) := by decide +kernel
theorem dX6_copy_141 : decode cX6_copy 141 = .ok (.aload_n 0, 1) := by decide +kernel
theorem dX6_copy_142 : decode cX6_copy 142 = .ok (.getfield 20, 3) := by decide +kernel
theorem dX6_copy_145 : decode cX6_copy 145 = .ok (.sipush 160, 3) := by decide +kernel
theorem dX6_copy_148 : decode cX6_copy 148 = .ok (.iload_n 3, 1) := by decide +kernel
theorem dX6_copy_149 : decode cX6_copy 149 = .ok (.imul, 1) := by decide +kernel
theorem dX6_copy_150 : decode cX6_copy 150 = .ok (.iload 4, 2) := by decide +kernel
theorem dX6_copy_152 : decode cX6_copy 152 = .ok (.iadd, 1) := by decide +kernel
theorem dX6_copy_153 : decode cX6_copy 153 = .ok (.iload 6, 2) := by decide +kernel
theorem dX6_copy_155 : decode cX6_copy 155 = .ok (.iadd, 1) := by decide +kernel
theorem dX6_copy_156 : decode cX6_copy 156 = .ok (.aload_n 0, 1) := by decide +kernel
theorem dX6_copy_157 : decode cX6_copy 157 = .ok (.getfield 23, 3) := by decide +kernel
theorem dX6_copy_160 : decode cX6_copy 160 = .ok (.iload 6, 2) := by decide +kernel
theorem dX6_copy_162 : decode cX6_copy 162 = .ok (.iaload, 1) := by decide +kernel
theorem dX6_copy_163 : decode cX6_copy 163 = .ok (.iastore, 1) := by decide +kernel
theorem dX6_copy_164 : decode cX6_copy 164 = .ok (.iinc 6 1, 3) := by decide +kernel
theorem dX6_copy_167 : decode cX6_copy 167 = .ok (.goto (-33), 3) := by decide +kernel
theorem dX6_copy_170 : decode cX6_copy 170 = .ok (.iconst 1, 1) := by decide +kernel
theorem dX6_copy_171 : decode cX6_copy 171 = .ok (.ireturn, 1) := by decide +kernel
set_option maxRecDepth 20000 in
theorem ggX6_strength_X6_in : GoodIn wsX6_strength wsX6_in := goodIn_r _ [4] (by decide +kernel) (by decide +kernel)
