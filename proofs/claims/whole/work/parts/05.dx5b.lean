set_option maxRecDepth 20000 in
theorem ggX5_frost_X5_depth : GoodIn wsX5_frost wsX5_depth := goodIn_r _ [5, 6, 7, 8, 4, 9, 10, 15, 16, 17, 18, 19, 20, 21, 22, 23, 24] (by decide +kernel) (by decide +kernel)
set_option maxRecDepth 20000 in
theorem gX5_frost_X5_depth : GoodIn wsX5_frost (wsV RX5 89 RX5 yX5_depth wsX5_depth) := goodIn_app (goodIn_of _ (by decide +kernel)) ggX5_frost_X5_depth
set_option maxRecDepth 20000 in
theorem ggX5_frost_X5_of : GoodIn wsX5_frost wsX5_of := goodIn_r _ [9, 10, 15, 16, 17, 18, 19, 20, 21, 22, 23, 24] (by decide +kernel) (by decide +kernel)
set_option maxRecDepth 20000 in
theorem gX5_frost_X5_of : GoodIn wsX5_frost (wsV RX5 37 RX5 yX5_of wsX5_of) := goodIn_app (goodIn_of _ (by decide +kernel)) ggX5_frost_X5_of
set_option maxRecDepth 20000 in
theorem ggX5_frost_X5_lay : GoodIn wsX5_frost wsX5_lay := goodIn_r _ [14, 10, 15, 16, 17, 18, 19, 20, 21, 22, 23, 24] (by decide +kernel) (by decide +kernel)
set_option maxRecDepth 20000 in
theorem gX5_frost_X5_lay : GoodIn wsX5_frost (wsV RX5 29 RX5 yX5_lay wsX5_lay) := goodIn_app (goodIn_of _ (by decide +kernel)) ggX5_frost_X5_lay
theorem dX5_frost_0 : decode cX5_frost 0 = .ok (.iconst 0, 1) := by decide +kernel
theorem dX5_frost_1 : decode cX5_frost 1 = .ok (.istore_n 1, 1) := by decide +kernel
theorem dX5_frost_2 : decode cX5_frost 2 = .ok (.iload_n 1, 1) := by decide +kernel
theorem dX5_frost_3 : decode cX5_frost 3 = .ok (.bipush 12, 2) := by decide +kernel
theorem dX5_frost_5 : decode cX5_frost 5 = .ok (.if_icmp .ge 34, 3) := by decide +kernel
theorem dX5_frost_8 : decode cX5_frost 8 = .ok (.aload_n 0, 1) := by decide +kernel
theorem dX5_frost_9 : decode cX5_frost 9 = .ok (.iload_n 1, 1) := by decide +kernel
theorem dX5_frost_10 : decode cX5_frost 10 = .ok (.iconst 2, 1) := by decide +kernel
theorem dX5_frost_11 : decode cX5_frost 11 = .ok (.aload_n 0, 1) := by decide +kernel
theorem dX5_frost_12 : decode cX5_frost 12 = .ok (.iload_n 1, 1) := by decide +kernel
theorem dX5_frost_13 : decode cX5_frost 13 = .ok (.invokevirtual 89, 3) := by decide +kernel
theorem dX5_frost_16 : decode cX5_frost 16 = .ok (.iconst 4, 1) := by decide +kernel
theorem dX5_frost_17 : decode cX5_frost 17 = .ok (.if_icmp .ge 7, 3) := by decide +kernel
theorem dX5_frost_20 : decode cX5_frost 20 = .ok (.iconst 1, 1) := by decide +kernel
theorem dX5_frost_21 : decode cX5_frost 21 = .ok (.goto 9, 3) := by decide +kernel
theorem dX5_frost_24 : decode cX5_frost 24 = .ok (.aload_n 0, 1) := by decide +kernel
theorem dX5_frost_25 : decode cX5_frost 25 = .ok (.iload_n 1, 1) := by decide +kernel
theorem dX5_frost_26 : decode cX5_frost 26 = .ok (.iconst 2, 1) := by decide +kernel
theorem dX5_frost_27 : decode cX5_frost 27 = .ok (.invokevirtual 37, 3) := by decide +kernel
theorem dX5_frost_30 : decode cX5_frost 30 = .ok (.invokevirtual 29, 3) := by decide +kernel
theorem dX5_frost_33 : decode cX5_frost 33 = .ok (.iinc 1 1, 3) := by decide +kernel
theorem dX5_frost_36 : decode cX5_frost 36 = .ok (.goto (-34), 3) := by decide +kernel
theorem dX5_frost_39 : decode cX5_frost 39 = .ok (.return_, 1) := by decide +kernel
set_option maxRecDepth 20000 in
theorem ggX5_endDay_X5_of : GoodIn wsX5_endDay wsX5_of := goodIn_r _ [6, 1, 15, 16, 17, 18, 19, 20, 21, 22, 23, 24] (by decide +kernel) (by decide +kernel)
set_option maxRecDepth 20000 in
theorem gX5_endDay_X5_of : GoodIn wsX5_endDay (wsV RX5 37 RX5 yX5_of wsX5_of) := goodIn_app (goodIn_of _ (by decide +kernel)) ggX5_endDay_X5_of
set_option maxRecDepth 20000 in
theorem ggX5_endDay_X5_isFrozen : GoodIn wsX5_endDay wsX5_isFrozen := goodIn_r _ [10, 2, 3, 4, 5, 6, 1, 15, 16, 17, 18, 19, 20, 21, 22, 23, 24] (by decide +kernel) (by decide +kernel)
set_option maxRecDepth 20000 in
theorem gX5_endDay_X5_isFrozen : GoodIn wsX5_endDay (wsV RX5 86 RX5 yX5_isFrozen wsX5_isFrozen) := goodIn_app (goodIn_of _ (by decide +kernel)) ggX5_endDay_X5_isFrozen
set_option maxRecDepth 20000 in
theorem ggX5_endDay_X5_lay : GoodIn wsX5_endDay wsX5_lay := goodIn_r _ [14, 1, 15, 16, 17, 18, 19, 20, 21, 22, 23, 24] (by decide +kernel) (by decide +kernel)
set_option maxRecDepth 20000 in
theorem gX5_endDay_X5_lay : GoodIn wsX5_endDay (wsV RX5 29 RX5 yX5_lay wsX5_lay) := goodIn_app (goodIn_of _ (by decide +kernel)) ggX5_endDay_X5_lay
theorem dX5_endDay_0 : decode cX5_endDay 0 = .ok (.iconst 0, 1) := by decide +kernel
theorem dX5_endDay_1 : decode cX5_endDay 1 = .ok (.istore_n 1, 1) := by decide +kernel
theorem dX5_endDay_2 : decode cX5_endDay 2 = .ok (.iload_n 1, 1) := by decide +kernel
theorem dX5_endDay_3 : decode cX5_endDay 3 = .ok (.bipush 12, 2) := by decide +kernel
theorem dX5_endDay_5 : decode cX5_endDay 5 = .ok (.if_icmp .ge 53, 3) := by decide +kernel
theorem dX5_endDay_8 : decode cX5_endDay 8 = .ok (.aload_n 0, 1) := by decide +kernel
theorem dX5_endDay_9 : decode cX5_endDay 9 = .ok (.iload_n 1, 1) := by decide +kernel
theorem dX5_endDay_10 : decode cX5_endDay 10 = .ok (.iconst 1, 1) := by decide +kernel
theorem dX5_endDay_11 : decode cX5_endDay 11 = .ok (.invokevirtual 37, 3) := by decide +kernel
theorem dX5_endDay_14 : decode cX5_endDay 14 = .ok (.aload_n 0, 1) := by decide +kernel
theorem dX5_endDay_15 : decode cX5_endDay 15 = .ok (.getfield 7, 3) := by decide +kernel
theorem dX5_endDay_18 : decode cX5_endDay 18 = .ok (.iconst 2, 1) := by decide +kernel
theorem dX5_endDay_19 : decode cX5_endDay 19 = .ok (.iaload, 1) := by decide +kernel
theorem dX5_endDay_20 : decode cX5_endDay 20 = .ok (.if_icmp .lt 15, 3) := by decide +kernel
theorem dX5_endDay_23 : decode cX5_endDay 23 = .ok (.aload_n 0, 1) := by decide +kernel
theorem dX5_endDay_24 : decode cX5_endDay 24 = .ok (.iload_n 1, 1) := by decide +kernel
theorem dX5_endDay_25 : decode cX5_endDay 25 = .ok (.invokevirtual 86, 3) := by decide +kernel
theorem dX5_endDay_28 : decode cX5_endDay 28 = .ok (.ifCond .ne 7, 3) := by decide +kernel
theorem dX5_endDay_31 : decode cX5_endDay 31 = .ok (.iconst 1, 1) := by decide +kernel
theorem dX5_endDay_32 : decode cX5_endDay 32 = .ok (.goto 4, 3) := by decide +kernel
theorem dX5_endDay_35 : decode cX5_endDay 35 = .ok (.iconst 0, 1) := by decide +kernel
theorem dX5_endDay_36 : decode cX5_endDay 36 = .ok (.istore_n 2, 1) := by decide +kernel
theorem dX5_endDay_37 : decode cX5_endDay 37 = .ok (.aload_n 0, 1) := by decide +kernel
theorem dX5_endDay_38 : decode cX5_endDay 38 = .ok (.iload_n 1, 1) := by decide +kernel
theorem dX5_endDay_39 : decode cX5_endDay 39 = .ok (.iconst 3, 1) := by decide +kernel
theorem dX5_endDay_40 : decode cX5_endDay 40 = .ok (.iload_n 2, 1) := by decide +kernel
theorem dX5_endDay_41 : decode cX5_endDay 41 = .ok (.ifCond .eq 7, 3) := by decide +kernel
theorem dX5_endDay_44 : decode cX5_endDay 44 = .ok (.iconst 1, 1) := by decide +kernel
theorem dX5_endDay_45 : decode cX5_endDay 45 = .ok (.goto 4, 3) := by decide +kernel
theorem dX5_endDay_48 : decode cX5_endDay 48 = .ok (.iconst 0, 1) := by decide +kernel
theorem dX5_endDay_49 : decode cX5_endDay 49 = .ok (.invokevirtual 29, 3) := by decide +kernel
theorem dX5_endDay_52 : decode cX5_endDay 52 = .ok (.iinc 1 1, 3) := by decide +kernel
theorem dX5_endDay_55 : decode cX5_endDay 55 = .ok (.goto (-53), 3) := by decide +kernel
theorem dX5_endDay_58 : decode cX5_endDay 58 = .ok (.aload_n 0, 1) := by decide +kernel
theorem dX5_endDay_59 : decode cX5_endDay 59 = .ok (.getfield 7, 3) := by decide +kernel
theorem dX5_endDay_62 : decode cX5_endDay 62 = .ok (.iconst 4, 1) := by decide +kernel
theorem dX5_endDay_63 : decode cX5_endDay 63 = .ok (.dup2, 1) := by decide +kernel
theorem dX5_endDay_64 : decode cX5_endDay 64 = .ok (.iaload, 1) := by decide +kernel
theorem dX5_endDay_65 : decode cX5_endDay 65 = .ok (.iconst 1, 1) := by decide +kernel
theorem dX5_endDay_66 : decode cX5_endDay 66 = .ok (.iadd, 1) := by decide +kernel
theorem dX5_endDay_67 : decode cX5_endDay 67 = .ok (.iastore, 1) := by decide +kernel
theorem dX5_endDay_68 : decode cX5_endDay 68 = .ok (.iconst 0, 1) := by decide +kernel
theorem dX5_endDay_69 : decode cX5_endDay 69 = .ok (.istore_n 1, 1) := by decide +kernel
theorem dX5_endDay_70 : decode cX5_endDay 70 = .ok (.iload_n 1, 1) := by decide +kernel
theorem dX5_endDay_71 : decode cX5_endDay 71 = .ok (.bipush 72, 2) := by decide +kernel
theorem dX5_endDay_73 : decode cX5_endDay 73 = .ok (.if_icmp .ge 49, 3) := by decide +kernel
theorem dX5_endDay_76 : decode cX5_endDay 76 = .ok (.aload_n 0, 1) := by decide +kernel
theorem dX5_endDay_77 : decode cX5_endDay 77 = .ok (.getfield 7, 3) := by decide +kernel
theorem dX5_endDay_80 : decode cX5_endDay 80 = .ok (.bipush 92, 2) := by decide +kernel
theorem dX5_endDay_82 : decode cX5_endDay 82 = .ok (.iload_n 1, 1) := by decide +kernel
theorem dX5_endDay_83 : decode cX5_endDay 83 = .ok (.iadd, 1) := by decide +kernel
theorem dX5_endDay_84 : decode cX5_endDay 84 = .ok (.dup2, 1) := by decide +kernel
theorem dX5_endDay_85 : decode cX5_endDay 85 = .ok (.iaload, 1) := by decide +kernel
theorem dX5_endDay_86 : decode cX5_endDay 86 = .ok (.aload_n 0, 1) := by decide +kernel
theorem dX5_endDay_87 : decode cX5_endDay 87 = .ok (.getfield 7, 3) := by decide +kernel
theorem dX5_endDay_90 : decode cX5_endDay 90 = .ok (.bipush 92, 2) := by decide +kernel
theorem dX5_endDay_92 : decode cX5_endDay 92 = .ok (.iload_n 1, 1) := by decide +kernel
theorem dX5_endDay_93 : decode cX5_endDay 93 = .ok (.iadd, 1) := by decide +kernel
theorem dX5_endDay_94 : decode cX5_endDay 94 = .ok (.iaload, 1) := by decide +kernel
theorem dX5_endDay_95 : decode cX5_endDay 95 = .ok (.ifCond .le 18, 3) := by decide +kernel
theorem dX5_endDay_98 : decode cX5_endDay 98 = .ok (.aload_n 0, 1) := by decide +kernel
theorem dX5_endDay_99 : decode cX5_endDay 99 = .ok (.iload_n 1, 1) := by decide +kernel
theorem dX5_endDay_100 : decode cX5_endDay 100 = .ok (.bipush 12, 2) := by decide +kernel
theorem dX5_endDay_102 : decode cX5_endDay 102 = .ok (.irem, 1) := by decide +kernel
theorem dX5_endDay_103 : decode cX5_endDay 103 = .ok (.invokevirtual 86, 3) := by decide +kernel
theorem dX5_endDay_106 : decode cX5_endDay 106 = .ok (.ifCond .ne 7, 3) := by decide +kernel
theorem dX5_endDay_109 : decode cX5_endDay 109 = .ok (.iconst 1, 1) := by decide +kernel
theorem dX5_endDay_110 : decode cX5_endDay 110 = .ok (.goto 4, 3) := by decide +kernel
theorem dX5_endDay_113 : decode cX5_endDay 113 = .ok (.iconst 0, 1) := by decide +kernel
theorem dX5_endDay_114 : decode cX5_endDay 114 = .ok (.isub, 1) := by decide +kernel
theorem dX5_endDay_115 : decode cX5_endDay 115 = .ok (.iastore, 1) := by decide +kernel
theorem dX5_endDay_116 : decode cX5_endDay 116 = .ok (.iinc 1 1, 3) := by decide +kernel
theorem dX5_endDay_119 : decode cX5_endDay 119 = .ok (.goto (-49), 3) := by decide +kernel
theorem dX5_endDay_122 : decode cX5_endDay 122 = .ok (.return_, 1) := by decide +kernel
set_option maxRecDepth 20000 in
theorem ggX5_passNow_X5_sun : GoodIn wsX5_passNow wsX5_sun := goodIn_r _ [5, 6, 7, 8, 9, 4, 10, 11, 12, 13, 14, 15, 16, 17, 18, 35, 36, 37, 38, 39, 40, 41, 42, 43, 44] (by decide +kernel) (by decide +kernel)
set_option maxRecDepth 20000 in
theorem gX5_passNow_X5_sun : GoodIn wsX5_passNow (wsV RX5 108 RX5 yX5_sun wsX5_sun) := goodIn_app (goodIn_of _ (by decide +kernel)) ggX5_passNow_X5_sun
set_option maxRecDepth 20000 in
theorem ggX5_passNow_X5_rain : GoodIn wsX5_passNow wsX5_rain := goodIn_r _ [22, 6, 7, 8, 9, 4, 10, 11, 12, 13, 14, 15, 16, 17, 18, 35, 36, 37, 38, 39, 40, 41, 42, 43, 44] (by decide +kernel) (by decide +kernel)
set_option maxRecDepth 20000 in
theorem gX5_passNow_X5_rain : GoodIn wsX5_passNow (wsV RX5 111 RX5 yX5_rain wsX5_rain) := goodIn_app (goodIn_of _ (by decide +kernel)) ggX5_passNow_X5_rain
set_option maxRecDepth 20000 in
theorem ggX5_passNow_X5_frost : GoodIn wsX5_passNow wsX5_frost := goodIn_r _ [26, 27, 28, 29, 4, 30, 11, 12, 13, 14, 6, 15, 16, 17, 18, 35, 36, 37, 38, 39, 40, 41, 42, 43, 44] (by decide +kernel) (by decide +kernel)
set_option maxRecDepth 20000 in
theorem gX5_passNow_X5_frost : GoodIn wsX5_passNow (wsV RX5 115 RX5 yX5_frost wsX5_frost) := goodIn_app (goodIn_of _ (by decide +kernel)) ggX5_passNow_X5_frost
set_option maxRecDepth 20000 in
theorem ggX5_passNow_X5_endDay : GoodIn wsX5_passNow wsX5_endDay := goodIn_r _ [34, 6, 11, 12, 13, 4, 14, 7, 8, 9, 10, 15, 16, 17, 18, 35, 36, 37, 38, 39, 40, 41, 42, 43, 44] (by decide +kernel) (by decide +kernel)
set_option maxRecDepth 20000 in
theorem gX5_passNow_X5_endDay : GoodIn wsX5_passNow (wsV RX5 118 RX5 yX5_endDay wsX5_endDay) := goodIn_app (goodIn_of _ (by decide +kernel)) ggX5_passNow_X5_endDay
theorem dX5_passNow_0 : decode cX5_passNow 0 = .ok (.iload_n 1, 1) := by decide +kernel
theorem dX5_passNow_1 : decode cX5_passNow 1 = .ok (.ifCond .ne 10, 3) := by decide +kernel
theorem dX5_passNow_4 : decode cX5_passNow 4 = .ok (.aload_n 0, 1) := by decide +kernel
theorem dX5_passNow_5 : decode cX5_passNow 5 = .ok (.invokevirtual 108, 3) := by decide +kernel
theorem dX5_passNow_8 : decode cX5_passNow 8 = .ok (.goto 34, 3) := by decide +kernel
theorem dX5_passNow_11 : decode cX5_passNow 11 = .ok (.iload_n 1, 1) := by decide +kernel
theorem dX5_passNow_12 : decode cX5_passNow 12 = .ok (.bipush 10, 2) := by decide +kernel
theorem dX5_passNow_14 : decode cX5_passNow 14 = .ok (.if_icmp .ge 11, 3) := by decide +kernel
theorem dX5_passNow_17 : decode cX5_passNow 17 = .ok (.aload_n 0, 1) := by decide +kernel
theorem dX5_passNow_18 : decode cX5_passNow 18 = .ok (.iload_n 1, 1) := by decide +kernel
theorem dX5_passNow_19 : decode cX5_passNow 19 = .ok (.invokevirtual 111, 3) := by decide +kernel
theorem dX5_passNow_22 : decode cX5_passNow 22 = .ok (.goto 20, 3) := by decide +kernel
theorem dX5_passNow_25 : decode cX5_passNow 25 = .ok (.iload_n 1, 1) := by decide +kernel
theorem dX5_passNow_26 : decode cX5_passNow 26 = .ok (.bipush 10, 2) := by decide +kernel
theorem dX5_passNow_28 : decode cX5_passNow 28 = .ok (.if_icmp .ne 10, 3) := by decide +kernel
theorem dX5_passNow_31 : decode cX5_passNow 31 = .ok (.aload_n 0, 1) := by decide +kernel
theorem dX5_passNow_32 : decode cX5_passNow 32 = .ok (.invokevirtual 115, 3) := by decide +kernel
theorem dX5_passNow_35 : decode cX5_passNow 35 = .ok (.goto 7, 3) := by decide +kernel
theorem dX5_passNow_38 : decode cX5_passNow 38 = .ok (.aload_n 0, 1) := by decide +kernel
theorem dX5_passNow_39 : decode cX5_passNow 39 = .ok (.invokevirtual 118, 3) := by decide +kernel
theorem dX5_passNow_42 : decode cX5_passNow 42 = .ok (.return_, 1) := by decide +kernel
set_option maxRecDepth 20000 in
theorem ggX5_water_X5_of : GoodIn wsX5_water wsX5_of := goodIn_r _ [5, 6, 7, 8, 9, 10, 11, 12, 13, 14, 15, 16] (by decide +kernel) (by decide +kernel)
set_option maxRecDepth 20000 in
theorem gX5_water_X5_of : GoodIn wsX5_water (wsV RX5 37 RX5 yX5_of wsX5_of) := goodIn_app (goodIn_of _ (by decide +kernel)) ggX5_water_X5_of
theorem dX5_water_0 : decode cX5_water 0 = .ok (.iconst 0, 1) := by decide +kernel
theorem dX5_water_1 : decode cX5_water 1 = .ok (.istore_n 1, 1) := by decide +kernel
theorem dX5_water_2 : decode cX5_water 2 = .ok (.iconst 0, 1) := by decide +kernel
theorem dX5_water_3 : decode cX5_water 3 = .ok (.istore_n 2, 1) := by decide +kernel
theorem dX5_water_4 : decode cX5_water 4 = .ok (.iload_n 2, 1) := by decide +kernel
theorem dX5_water_5 : decode cX5_water 5 = .ok (.bipush 12, 2) := by decide +kernel
theorem dX5_water_7 : decode cX5_water 7 = .ok (.if_icmp .ge 18, 3) := by decide +kernel
theorem dX5_water_10 : decode cX5_water 10 = .ok (.iload_n 1, 1) := by decide +kernel
theorem dX5_water_11 : decode cX5_water 11 = .ok (.aload_n 0, 1) := by decide +kernel
theorem dX5_water_12 : decode cX5_water 12 = .ok (.iload_n 2, 1) := by decide +kernel
theorem dX5_water_13 : decode cX5_water 13 = .ok (.iconst 1, 1) := by decide +kernel
theorem dX5_water_14 : decode cX5_water 14 = .ok (.invokevirtual 37, 3) := by decide +kernel
theorem dX5_water_17 : decode cX5_water 17 = .ok (.iadd, 1) := by decide +kernel
theorem dX5_water_18 : decode cX5_water 18 = .ok (.istore_n 1, 1) := by decide +kernel
theorem dX5_water_19 : decode cX5_water 19 = .ok (.iinc 2 1, 3) := by decide +kernel
theorem dX5_water_22 : decode cX5_water 22 = .ok (.goto (-18), 3) := by decide +kernel
theorem dX5_water_25 : decode cX5_water 25 = .ok (.iload_n 1, 1) := by decide +kernel
theorem dX5_water_26 : decode cX5_water 26 = .ok (.ireturn, 1) := by decide +kernel
set_option maxRecDepth 20000 in
theorem ggX5_pass_X5_in : GoodIn wsX5_pass wsX5_in := goodIn_r _ [5] (by decide +kernel) (by decide +kernel)
set_option maxRecDepth 20000 in
theorem gX5_pass_X5_in : GoodIn wsX5_pass (va_wsS RX5 33 yX5_in wsX5_in) := goodIn_app (goodIn_of _ (by decide +kernel)) ggX5_pass_X5_in
set_option maxRecDepth 20000 in
theorem ggX5_pass_X5_record : GoodIn wsX5_pass wsX5_record := goodIn_r _ [9, 10, 11, 1, 12, 13, 4, 14, 55, 56, 57, 58, 59, 60, 61, 62, 63, 64] (by decide +kernel) (by decide +kernel)
set_option maxRecDepth 20000 in
theorem gX5_pass_X5_record : GoodIn wsX5_pass (wsV RX5 49 RX5 yX5_record wsX5_record) := goodIn_app (goodIn_of _ (by decide +kernel)) ggX5_pass_X5_record
set_option maxRecDepth 20000 in
theorem ggX5_pass_X5_passNow : GoodIn wsX5_pass wsX5_passNow := goodIn_r _ [18, 19, 20, 21, 4, 22, 1, 23, 24, 25, 26, 27, 28, 29, 30, 31, 32, 33, 34, 35, 36, 37, 38, 39, 40, 41, 42, 43, 44, 45, 46, 47, 48, 49, 50, 55, 56, 57, 58, 59, 60, 61, 62, 63, 64] (by decide +kernel) (by decide +kernel)
set_option maxRecDepth 20000 in
theorem gX5_pass_X5_passNow : GoodIn wsX5_pass (wsV RX5 121 RX5 yX5_passNow wsX5_passNow) := goodIn_app (goodIn_of _ (by decide +kernel)) ggX5_pass_X5_passNow
set_option maxRecDepth 20000 in
theorem ggX5_pass_X5_water : GoodIn wsX5_pass wsX5_water := goodIn_r _ [54, 27, 28, 29, 4, 30, 1, 55, 56, 57, 58, 59, 60, 61, 62, 63, 64] (by decide +kernel) (by decide +kernel)
set_option maxRecDepth 20000 in
theorem gX5_pass_X5_water : GoodIn wsX5_pass (wsV RX5 124 RX5 yX5_water wsX5_water) := goodIn_app (goodIn_of _ (by decide +kernel)) ggX5_pass_X5_water
theorem dX5_pass_0 : decode cX5_pass 0 = .ok (.iload_n 1, 1) := by decide +kernel
theorem dX5_pass_1 : decode cX5_pass 1 = .ok (.iconst 0, 1) := by decide +kernel
theorem dX5_pass_2 : decode cX5_pass 2 = .ok (.bipush 11, 2) := by decide +kernel
theorem dX5_pass_4 : decode cX5_pass 4 = .ok (.invokestatic 33, 3) := by decide +kernel
theorem dX5_pass_7 : decode cX5_pass 7 = .ok (.ifCond .ne 6, 3) := by decide +kernel
theorem dX5_pass_10 : decode cX5_pass 10 = .ok (.bipush (-2), 2) := by decide +kernel
theorem dX5_pass_12 : decode cX5_pass 12 = .ok (.ireturn, 1) := by decide +kernel
theorem dX5_pass_13 : decode cX5_pass 13 = .ok (.iload_n 1, 1) := by decide +kernel
theorem dX5_pass_14 : decode cX5_pass 14 = .ok (.bipush 11, 2) := by decide +kernel
theorem dX5_pass_16 : decode cX5_pass 16 = .ok (.if_icmp .ne 18, 3) := by decide +kernel
theorem dX5_pass_19 : decode cX5_pass 19 = .ok (.aload_n 0, 1) := by decide +kernel
theorem dX5_pass_20 : decode cX5_pass 20 = .ok (.getfield 7, 3) := by decide +kernel
theorem dX5_pass_23 : decode cX5_pass 23 = .ok (.iconst 4, 1) := by decide +kernel
theorem dX5_pass_24 : decode cX5_pass 24 = .ok (.iaload, 1) := by decide +kernel
theorem dX5_pass_25 : decode cX5_pass 25 = .ok (.sipush 9999, 3) := by decide +kernel
theorem dX5_pass_28 : decode cX5_pass 28 = .ok (.if_icmp .ne 6, 3) := by decide +kernel
theorem dX5_pass_31 : decode cX5_pass 31 = .ok (.bipush (-4), 2) := by decide +kernel
theorem dX5_pass_33 : decode cX5_pass 33 = .ok (.ireturn, 1) := by decide +kernel
theorem dX5_pass_34 : decode cX5_pass 34 = .ok (.aload_n 0, 1) := by decide +kernel
theorem dX5_pass_35 : decode cX5_pass 35 = .ok (.invokevirtual 49, 3) := by decide +kernel
theorem dX5_pass_38 : decode cX5_pass 38 = .ok (.aload_n 0, 1) := by decide +kernel
theorem dX5_pass_39 : decode cX5_pass 39 = .ok (.iload_n 1, 1) := by decide +kernel
theorem dX5_pass_40 : decode cX5_pass 40 = .ok (.invokevirtual 121, 3) := by decide +kernel
theorem dX5_pass_43 : decode cX5_pass 43 = .ok (.aload_n 0, 1) := by decide +kernel
theorem dX5_pass_44 : decode cX5_pass 44 = .ok (.invokevirtual 124, 3) := by decide +kernel
theorem dX5_pass_47 : decode cX5_pass 47 = .ok (.ireturn, 1) := by decide +kernel
set_option maxRecDepth 20000 in
theorem ggX5_put_X5_in : GoodIn wsX5_put wsX5_in := goodIn_r _ [7] (by decide +kernel) (by decide +kernel)
set_option maxRecDepth 20000 in
theorem gX5_put_X5_in : GoodIn wsX5_put (va_wsS RX5 33 yX5_in wsX5_in) := goodIn_app (goodIn_of _ (by decide +kernel)) ggX5_put_X5_in
theorem dX5_put_0 : decode cX5_put 0 = .ok (.lload_n 1, 1) := by decide +kernel
theorem dX5_put_1 : decode cX5_put 1 = .ok (.lstore_n 3, 1) := by decide +kernel
theorem dX5_put_2 : decode cX5_put 2 = .ok (.iconst 0, 1) := by decide +kernel
theorem dX5_put_3 : decode cX5_put 3 = .ok (.istore 5, 2) := by decide +kernel
theorem dX5_put_5 : decode cX5_put 5 = .ok (.lload_n 3, 1) := by decide +kernel
theorem dX5_put_6 : decode cX5_put 6 = .ok (.lconst 0, 1) := by decide +kernel
theorem dX5_put_7 : decode cX5_put 7 = .ok (.lcmp, 1) := by decide +kernel
theorem dX5_put_8 : decode cX5_put 8 = .ok (.ifCond .eq 40, 3) := by decide +kernel
theorem dX5_put_11 : decode cX5_put 11 = .ok (.iload 5, 2) := by decide +kernel
theorem dX5_put_13 : decode cX5_put 13 = .ok (.bipush 8, 2) := by decide +kernel
theorem dX5_put_15 : decode cX5_put 15 = .ok (.if_icmp .ge 33, 3) := by decide +kernel
theorem dX5_put_18 : decode cX5_put 18 = .ok (.lload_n 3, 1) := by decide +kernel
theorem dX5_put_19 : decode cX5_put 19 = .ok (.ldc2_w 128, 3) := by decide +kernel
theorem dX5_put_22 : decode cX5_put 22 = .ok (.land, 1) := by decide +kernel
theorem dX5_put_23 : decode cX5_put 23 = .ok (.l2i, 1) := by decide +kernel
theorem dX5_put_24 : decode cX5_put 24 = .ok (.bipush 33, 2) := by decide +kernel
theorem dX5_put_26 : decode cX5_put 26 = .ok (.bipush 126, 2) := by decide +kernel
theorem dX5_put_28 : decode cX5_put 28 = .ok (.invokestatic 33, 3) := by decide +kernel
theorem dX5_put_31 : decode cX5_put 31 = .ok (.ifCond .ne 6, 3) := by decide +kernel
theorem dX5_put_34 : decode cX5_put 34 = .ok (.bipush (-2), 2) := by decide +kernel
theorem dX5_put_36 : decode cX5_put 36 = .ok (.ireturn, 1) := by decide +kernel
theorem dX5_put_37 : decode cX5_put 37 = .ok (.lload_n 3, 1) := by decide +kernel
theorem dX5_put_38 : decode cX5_put 38 = .ok (.bipush 8, 2) := by decide +kernel
theorem dX5_put_40 : decode cX5_put 40 = .ok (.lushr, 1) := by decide +kernel
theorem dX5_put_41 : decode cX5_put 41 = .ok (.lstore_n 3, 1) := by decide +kernel
theorem dX5_put_42 : decode cX5_put 42 = .ok (.iinc 5 1, 3) := by decide +kernel
theorem dX5_put_45 : decode cX5_put 45 = .ok (.goto (-40), 3) := by decide +kernel
theorem dX5_put_48 : decode cX5_put 48 = .ok (.iload 5, 2) := by decide +kernel
theorem dX5_put_50 : decode cX5_put 50 = .ok (.ifCond .ne 6, 3) := by decide +kernel
theorem dX5_put_53 : decode cX5_put 53 = .ok (.bipush (-2), 2) := by decide +kernel
theorem dX5_put_55 : decode cX5_put 55 = .ok (.ireturn, 1) := by decide +kernel
theorem dX5_put_56 : decode cX5_put 56 = .ok (.aload_n 0, 1) := by decide +kernel
theorem dX5_put_57 : decode cX5_put 57 = .ok (.getfield 130, 3) := by decide +kernel
theorem dX5_put_60 : decode cX5_put 60 = .ok (.iload 5, 2) := by decide +kernel
theorem dX5_put_62 : decode cX5_put 62 = .ok (.iadd, 1) := by decide +kernel
theorem dX5_put_63 : decode cX5_put 63 = .ok (.bipush 60, 2) := by decide +kernel
theorem dX5_put_65 : decode cX5_put 65 = .ok (.if_icmp .le 6, 3) := by decide +kernel
theorem dX5_put_68 : decode cX5_put 68 = .ok (.bipush (-4), 2) := by decide +kernel
theorem dX5_put_70 : decode cX5_put 70 = .ok (.ireturn, 1) := by decide +kernel
theorem dX5_put_71 : decode cX5_put 71 = .ok (.iload 5, 2) := by decide +kernel
theorem dX5_put_73 : decode cX5_put 73 = .ok (.iconst 1, 1) := by decide +kernel
theorem dX5_put_74 : decode cX5_put 74 = .ok (.isub, 1) := by decide +kernel
theorem dX5_put_75 : decode cX5_put 75 = .ok (.istore 6, 2) := by decide +kernel
theorem dX5_put_77 : decode cX5_put 77 = .ok (.iload 6, 2) := by decide +kernel
theorem dX5_put_79 : decode cX5_put 79 = .ok (.ifCond .lt 40, 3) := by decide +kernel
theorem dX5_put_82 : decode cX5_put 82 = .ok (.aload_n 0, 1) := by decide +kernel
theorem dX5_put_83 : decode cX5_put 83 = .ok (.getfield 23, 3) := by decide +kernel
theorem dX5_put_86 : decode cX5_put 86 = .ok (.aload_n 0, 1) := by decide +kernel
theorem dX5_put_87 : decode cX5_put 87 = .ok (.getfield 130, 3) := by decide +kernel
theorem dX5_put_90 : decode cX5_put 90 = .ok (.lload_n 1, 1) := by decide +kernel
theorem dX5_put_91 : decode cX5_put 91 = .ok (.bipush 8, 2) := by decide +kernel
theorem dX5_put_93 : decode cX5_put 93 = .ok (.iload 6, 2) := by decide +kernel
theorem dX5_put_95 : decode cX5_put 95 = .ok (.imul, 1) := by decide +kernel
theorem dX5_put_96 : decode cX5_put 96 = .ok (.lushr, 1) := by decide +kernel
theorem dX5_put_97 : decode cX5_put 97 = .ok (.ldc2_w 128, 3) := by decide +kernel
theorem dX5_put_100 : decode cX5_put 100 = .ok (.land, 1) := by decide +kernel
theorem dX5_put_101 : decode cX5_put 101 = .ok (.l2i, 1) := by decide +kernel
theorem dX5_put_102 : decode cX5_put 102 = .ok (.iastore, 1) := by decide +kernel
theorem dX5_put_103 : decode cX5_put 103 = .ok (.aload_n 0, 1) := by decide +kernel
theorem dX5_put_104 : decode cX5_put 104 = .ok (.dup, 1) := by decide +kernel
theorem dX5_put_105 : decode cX5_put 105 = .ok (.getfield 130, 3) := by decide +kernel
theorem dX5_put_108 : decode cX5_put 108 = .ok (.iconst 1, 1) := by decide +kernel
theorem dX5_put_109 : decode cX5_put 109 = .ok (.iadd, 1) := by decide +kernel
theorem dX5_put_110 : decode cX5_put 110 = .ok (.putfield 130, 3) := by decide +kernel
theorem dX5_put_113 : decode cX5_put 113 = .ok (.iinc 6 (-1), 3) := by decide +kernel
theorem dX5_put_116 : decode cX5_put 116 = .ok (.goto (-39), 3) := by decide +kernel
theorem dX5_put_119 : decode cX5_put 119 = .ok (.aload_n 0, 1) := by decide +kernel
theorem dX5_put_120 : decode cX5_put 120 = .ok (.getfield 130, 3) := by decide +kernel
theorem dX5_put_123 : decode cX5_put 123 = .ok (.ireturn, 1) := by decide +kernel
theorem dX5_wipe_0 : decode cX5_wipe 0 = .ok (.aload_n 0, 1) := by decide +kernel
theorem dX5_wipe_1 : decode cX5_wipe 1 = .ok (.getfield 130, 3) := by decide +kernel
theorem dX5_wipe_4 : decode cX5_wipe 4 = .ok (.istore_n 1, 1) := by decide +kernel
theorem dX5_wipe_5 : decode cX5_wipe 5 = .ok (.aload_n 0, 1) := by decide +kernel
theorem dX5_wipe_6 : decode cX5_wipe 6 = .ok (.iconst 0, 1) := by decide +kernel
theorem dX5_wipe_7 : decode cX5_wipe 7 = .ok (.putfield 130, 3) := by decide +kernel
theorem dX5_wipe_10 : decode cX5_wipe 10 = .ok (.iload_n 1, 1) := by decide +kernel
theorem dX5_wipe_11 : decode cX5_wipe 11 = .ok (.ireturn, 1) := by decide +kernel
set_option maxRecDepth 20000 in
theorem ggX5_readHour_X5_in : GoodIn wsX5_readHour wsX5_in := goodIn_r _ [7] (by decide +kernel) (by decide +kernel)
set_option maxRecDepth 20000 in
theorem gX5_readHour_X5_in : GoodIn wsX5_readHour (va_wsS RX5 33 yX5_in wsX5_in) := goodIn_app (goodIn_of _ (by decide +kernel)) ggX5_readHour_X5_in
theorem dX5_readHour_0 : decode cX5_readHour 0 = .ok (.aload_n 0, 1) := by decide +kernel
theorem dX5_readHour_1 : decode cX5_readHour 1 = .ok (.getfield 133, 3) := by decide +kernel
theorem dX5_readHour_4 : decode cX5_readHour 4 = .ok (.aload_n 0, 1) := by decide +kernel
theorem dX5_readHour_5 : decode cX5_readHour 5 = .ok (.getfield 130, 3) := by decide +kernel
theorem dX5_readHour_8 : decode cX5_readHour 8 = .ok (.if_icmp .ne 6, 3) := by decide +kernel
theorem dX5_readHour_11 : decode cX5_readHour 11 = .ok (.bipush (-6), 2) := by decide +kernel
theorem dX5_readHour_13 : decode cX5_readHour 13 = .ok (.ireturn, 1) := by decide +kernel
theorem dX5_readHour_14 : decode cX5_readHour 14 = .ok (.aload_n 0, 1) := by decide +kernel
theorem dX5_readHour_15 : decode cX5_readHour 15 = .ok (.getfield 23, 3) := by decide +kernel
theorem dX5_readHour_18 : decode cX5_readHour 18 = .ok (.aload_n 0, 1) := by decide +kernel
theorem dX5_readHour_19 : decode cX5_readHour 19 = .ok (.getfield 133, 3) := by decide +kernel
theorem dX5_readHour_22 : decode cX5_readHour 22 = .ok (.iaload, 1) := by decide +kernel
theorem dX5_readHour_23 : decode cX5_readHour 23 = .ok (.istore_n 1, 1) := by decide +kernel
theorem dX5_readHour_24 : decode cX5_readHour 24 = .ok (.iload_n 1, 1) := by decide +kernel
theorem dX5_readHour_25 : decode cX5_readHour 25 = .ok (.bipush 115, 2) := by decide +kernel
theorem dX5_readHour_27 : decode cX5_readHour 27 = .ok (.if_icmp .eq 24, 3) := by decide +kernel
theorem dX5_readHour_30 : decode cX5_readHour 30 = .ok (.iload_n 1, 1) := by decide +kernel
theorem dX5_readHour_31 : decode cX5_readHour 31 = .ok (.bipush 102, 2) := by decide +kernel
theorem dX5_readHour_33 : decode cX5_readHour 33 = .ok (.if_icmp .eq 18, 3) := by decide +kernel
theorem dX5_readHour_36 : decode cX5_readHour 36 = .ok (.iload_n 1, 1) := by decide +kernel
theorem dX5_readHour_37 : decode cX5_readHour 37 = .ok (.bipush 100, 2) := by decide +kernel
theorem dX5_readHour_39 : decode cX5_readHour 39 = .ok (.if_icmp .eq 12, 3) := by decide +kernel
theorem dX5_readHour_42 : decode cX5_readHour 42 = .ok (.iload_n 1, 1) := by decide +kernel
theorem dX5_readHour_43 : decode cX5_readHour 43 = .ok (.bipush 114, 2) := by decide +kernel
theorem dX5_readHour_45 : decode cX5_readHour 45 = .ok (.if_icmp .eq 6, 3) := by decide +kernel
theorem dX5_readHour_48 : decode cX5_readHour 48 = .ok (.bipush (-6), 2) := by decide +kernel
theorem dX5_readHour_50 : decode cX5_readHour 50 = .ok (.ireturn, 1) := by decide +kernel
theorem dX5_readHour_51 : decode cX5_readHour 51 = .ok (.aload_n 0, 1) := by decide +kernel
theorem dX5_readHour_52 : decode cX5_readHour 52 = .ok (.dup, 1) := by decide +kernel
theorem dX5_readHour_53 : decode cX5_readHour 53 = .ok (.getfield 133, 3) := by decide +kernel
theorem dX5_readHour_56 : decode cX5_readHour 56 = .ok (.iconst 1, 1) := by decide +kernel
theorem dX5_readHour_57 : decode cX5_readHour 57 = .ok (.iadd, 1) := by decide +kernel
theorem dX5_readHour_58 : decode cX5_readHour 58 = .ok (.putfield 133, 3) := by decide +kernel
theorem dX5_readHour_61 : decode cX5_readHour 61 = .ok (.iload_n 1, 1) := by decide +kernel
theorem dX5_readHour_62 : decode cX5_readHour 62 = .ok (.bipush 114, 2) := by decide +kernel
theorem dX5_readHour_64 : decode cX5_readHour 64 = .ok (.if_icmp .eq 27, 3) := by decide +kernel
theorem dX5_readHour_67 : decode cX5_readHour 67 = .ok (.iload_n 1, 1) := by decide +kernel
theorem dX5_readHour_68 : decode cX5_readHour 68 = .ok (.bipush 115, 2) := by decide +kernel
theorem dX5_readHour_70 : decode cX5_readHour 70 = .ok (.if_icmp .ne 7, 3) := by decide +kernel
theorem dX5_readHour_73 : decode cX5_readHour 73 = .ok (.iconst 0, 1) := by decide +kernel
theorem dX5_readHour_74 : decode cX5_readHour 74 = .ok (.goto 16, 3) := by decide +kernel
theorem dX5_readHour_77 : decode cX5_readHour 77 = .ok (.iload_n 1, 1) := by decide +kernel
theorem dX5_readHour_78 : decode cX5_readHour 78 = .ok (.bipush 102, 2) := by decide +kernel
theorem dX5_readHour_80 : decode cX5_readHour 80 = .ok (.if_icmp .ne 8, 3) := by decide +kernel
theorem dX5_readHour_83 : decode cX5_readHour 83 = .ok (.bipush 10, 2) := by decide +kernel
theorem dX5_readHour_85 : decode cX5_readHour 85 = .ok (.goto 5, 3) := by decide +kernel
theorem dX5_readHour_88 : decode cX5_readHour 88 = .ok (.bipush 11, 2) := by decide +kernel
theorem dX5_readHour_90 : decode cX5_readHour 90 = .ok (.ireturn, 1) := by decide +kernel
theorem dX5_readHour_91 : decode cX5_readHour 91 = .ok (.aload_n 0, 1) := by decide +kernel
theorem dX5_readHour_92 : decode cX5_readHour 92 = .ok (.getfield 133, 3) := by decide +kernel
theorem dX5_readHour_95 : decode cX5_readHour 95 = .ok (.aload_n 0, 1) := by decide +kernel
theorem dX5_readHour_96 : decode cX5_readHour 96 = .ok (.getfield 130, 3) := by decide +kernel
theorem dX5_readHour_99 : decode cX5_readHour 99 = .ok (.if_icmp .eq 22, 3) := by decide +kernel
theorem dX5_readHour_102 : decode cX5_readHour 102 = .ok (.aload_n 0, 1) := by decide +kernel
theorem dX5_readHour_103 : decode cX5_readHour 103 = .ok (.getfield 23, 3) := by decide +kernel
theorem dX5_readHour_106 : decode cX5_readHour 106 = .ok (.aload_n 0, 1) := by decide +kernel
theorem dX5_readHour_107 : decode cX5_readHour 107 = .ok (.getfield 133, 3) := by decide +kernel
theorem dX5_readHour_110 : decode cX5_readHour 110 = .ok (.iaload, 1) := by decide +kernel
theorem dX5_readHour_111 : decode cX5_readHour 111 = .ok (.bipush 49, 2) := by decide +kernel
theorem dX5_readHour_113 : decode cX5_readHour 113 = .ok (.bipush 57, 2) := by decide +kernel
theorem dX5_readHour_115 : decode cX5_readHour 115 = .ok (.invokestatic 33, 3) := by decide +kernel
theorem dX5_readHour_118 : decode cX5_readHour 118 = .ok (.ifCond .ne 6, 3) := by decide +kernel
theorem dX5_readHour_121 : decode cX5_readHour 121 = .ok (.bipush (-6), 2) := by decide +kernel
theorem dX5_readHour_123 : decode cX5_readHour 123 = .ok (.ireturn, 1) := by decide +kernel
theorem dX5_readHour_124 : decode cX5_readHour 124 = .ok (.aload_n 0, 1) := by decide +kernel
theorem dX5_readHour_125 : decode cX5_readHour 125 = .ok (.dup, 1) := by decide +kernel
theorem dX5_readHour_126 : decode cX5_readHour 126 = .ok (.getfield 133, 3) := by decide +kernel
theorem dX5_readHour_129 : decode cX5_readHour 129 = .ok (.iconst 1, 1) := by decide +kernel
theorem dX5_readHour_130 : decode cX5_readHour 130 = .ok (.iadd, 1) := by decide +kernel
theorem dX5_readHour_131 : decode cX5_readHour 131 = .ok (.putfield 133, 3) := by decide +kernel
theorem dX5_readHour_134 : decode cX5_readHour 134 = .ok (.aload_n 0, 1) := by decide +kernel
theorem dX5_readHour_135 : decode cX5_readHour 135 = .ok (.getfield 23, 3) := by decide +kernel
theorem dX5_readHour_138 : decode cX5_readHour 138 = .ok (.aload_n 0, 1) := by decide +kernel
theorem dX5_readHour_139 : decode cX5_readHour 139 = .ok (.getfield 133, 3) := by decide +kernel
theorem dX5_readHour_142 : decode cX5_readHour 142 = .ok (.iconst 1, 1) := by decide +kernel
theorem dX5_readHour_143 : decode cX5_readHour 143 = .ok (.isub, 1) := by decide +kernel
theorem dX5_readHour_144 : decode cX5_readHour 144 = .ok (.iaload, 1) := by decide +kernel
theorem dX5_readHour_145 : decode cX5_readHour 145 = .ok (.bipush 48, 2) := by decide +kernel
theorem dX5_readHour_147 : decode cX5_readHour 147 = .ok (.isub, 1) := by decide +kernel
theorem dX5_readHour_148 : decode cX5_readHour 148 = .ok (.ireturn, 1) := by decide +kernel
set_option maxRecDepth 20000 in
theorem ggX5_readPad_X5_readHour : GoodIn wsX5_readPad wsX5_readHour := goodIn_r _ [9, 1, 4, 10, 11, 12, 8, 13, 14, 15, 16, 17, 18, 19, 20, 21, 22, 23] (by decide +kernel) (by decide +kernel)
set_option maxRecDepth 20000 in
theorem gX5_readPad_X5_readHour : GoodIn wsX5_readPad (wsV RX5 139 RX5 yX5_readHour wsX5_readHour) := goodIn_app (goodIn_of _ (by decide +kernel)) ggX5_readPad_X5_readHour
theorem dX5_readPad_0 : decode cX5_readPad 0 = .ok (.aload_n 0, 1) := by decide +kernel
theorem dX5_readPad_1 : decode cX5_readPad 1 = .ok (.iconst 0, 1) := by decide +kernel
theorem dX5_readPad_2 : decode cX5_readPad 2 = .ok (.putfield 133, 3) := by decide +kernel
theorem dX5_readPad_5 : decode cX5_readPad 5 = .ok (.aload_n 0, 1) := by decide +kernel
theorem dX5_readPad_6 : decode cX5_readPad 6 = .ok (.iconst 0, 1) := by decide +kernel
theorem dX5_readPad_7 : decode cX5_readPad 7 = .ok (.putfield 136, 3) := by decide +kernel
theorem dX5_readPad_10 : decode cX5_readPad 10 = .ok (.aload_n 0, 1) := by decide +kernel
theorem dX5_readPad_11 : decode cX5_readPad 11 = .ok (.invokevirtual 139, 3) := by decide +kernel
theorem dX5_readPad_14 : decode cX5_readPad 14 = .ok (.istore_n 1, 1) := by decide +kernel
theorem dX5_readPad_15 : decode cX5_readPad 15 = .ok (.iload_n 1, 1) := by decide +kernel
theorem dX5_readPad_16 : decode cX5_readPad 16 = .ok (.bipush (-6), 2) := by decide +kernel
theorem dX5_readPad_18 : decode cX5_readPad 18 = .ok (.if_icmp .eq 44, 3) := by decide +kernel
theorem dX5_readPad_21 : decode cX5_readPad 21 = .ok (.aload_n 0, 1) := by decide +kernel
theorem dX5_readPad_22 : decode cX5_readPad 22 = .ok (.getfield 26, 3) := by decide +kernel
theorem dX5_readPad_25 : decode cX5_readPad 25 = .ok (.aload_n 0, 1) := by decide +kernel
theorem dX5_readPad_26 : decode cX5_readPad 26 = .ok (.getfield 136, 3) := by decide +kernel
theorem dX5_readPad_29 : decode cX5_readPad 29 = .ok (.iload_n 1, 1) := by decide +kernel
theorem dX5_readPad_30 : decode cX5_readPad 30 = .ok (.iastore, 1) := by decide +kernel
theorem dX5_readPad_31 : decode cX5_readPad 31 = .ok (.aload_n 0, 1) := by decide +kernel
theorem dX5_readPad_32 : decode cX5_readPad 32 = .ok (.dup, 1) := by decide +kernel
theorem dX5_readPad_33 : decode cX5_readPad 33 = .ok (.getfield 136, 3) := by decide +kernel
theorem dX5_readPad_36 : decode cX5_readPad 36 = .ok (.iconst 1, 1) := by decide +kernel
theorem dX5_readPad_37 : decode cX5_readPad 37 = .ok (.iadd, 1) := by decide +kernel
theorem dX5_readPad_38 : decode cX5_readPad 38 = .ok (.putfield 136, 3) := by decide +kernel
theorem dX5_readPad_41 : decode cX5_readPad 41 = .ok (.aload_n 0, 1) := by decide +kernel
theorem dX5_readPad_42 : decode cX5_readPad 42 = .ok (.getfield 133, 3) := by decide +kernel
theorem dX5_readPad_45 : decode cX5_readPad 45 = .ok (.aload_n 0, 1) := by decide +kernel
theorem dX5_readPad_46 : decode cX5_readPad 46 = .ok (.getfield 130, 3) := by decide +kernel
theorem dX5_readPad_49 : decode cX5_readPad 49 = .ok (.if_icmp .ne 5, 3) := by decide +kernel
theorem dX5_readPad_52 : decode cX5_readPad 52 = .ok (.iconst 1, 1) := by decide +kernel
theorem dX5_readPad_53 : decode cX5_readPad 53 = .ok (.ireturn, 1) := by decide +kernel
theorem dX5_readPad_54 : decode cX5_readPad 54 = .ok (.aload_n 0, 1) := by decide +kernel
theorem dX5_readPad_55 : decode cX5_readPad 55 = .ok (.invokevirtual 139, 3) := by decide +kernel
theorem dX5_readPad_58 : decode cX5_readPad 58 = .ok (.istore_n 1, 1) := by decide +kernel
theorem dX5_readPad_59 : decode cX5_readPad 59 = .ok (.goto (-44), 3) := by decide +kernel
theorem dX5_readPad_62 : decode cX5_readPad 62 = .ok (.iconst 0, 1) := by decide +kernel
theorem dX5_readPad_63 : decode cX5_readPad 63 = .ok (.ireturn, 1) := by decide +kernel
set_option maxRecDepth 20000 in
theorem ggX5_fault_X5_readPad : GoodIn wsX5_fault wsX5_readPad := goodIn_r _ [6, 1, 7, 8, 9, 10, 11, 12, 5, 13, 14, 15, 16, 17, 18, 19, 20, 21, 22, 23, 24, 25, 26, 27] (by decide +kernel) (by decide +kernel)
set_option maxRecDepth 20000 in
theorem gX5_fault_X5_readPad : GoodIn wsX5_fault (wsV RX5 142 RX5 yX5_readPad wsX5_readPad) := goodIn_app (goodIn_of _ (by decide +kernel)) ggX5_fault_X5_readPad
theorem dX5_fault_0 : decode cX5_fault 0 = .ok (.aload_n 0, 1) := by decide +kernel
theorem dX5_fault_1 : decode cX5_fault 1 = .ok (.invokevirtual 142, 3) := by decide +kernel
theorem dX5_fault_4 : decode cX5_fault 4 = .ok (.ifCond .eq 8, 3) := by decide +kernel
theorem dX5_fault_7 : decode cX5_fault 7 = .ok (.bipush (-6), 2) := by decide +kernel
theorem dX5_fault_9 : decode cX5_fault 9 = .ok (.goto 7, 3) := by decide +kernel
theorem dX5_fault_12 : decode cX5_fault 12 = .ok (.aload_n 0, 1) := by decide +kernel
theorem dX5_fault_13 : decode cX5_fault 13 = .ok (.getfield 133, 3) := by decide +kernel
theorem dX5_fault_16 : decode cX5_fault 16 = .ok (.ireturn, 1) := by decide +kernel
set_option maxRecDepth 20000 in
theorem ggX5_read_X5_readPad : GoodIn wsX5_read wsX5_readPad := goodIn_r _ [9, 10, 1, 2, 4, 11, 12, 13, 8, 14, 15, 16, 17, 18, 68, 69, 70, 71, 72, 73, 74, 75, 76, 77] (by decide +kernel) (by decide +kernel)
set_option maxRecDepth 20000 in
theorem gX5_read_X5_readPad : GoodIn wsX5_read (wsV RX5 142 RX5 yX5_readPad wsX5_readPad) := goodIn_app (goodIn_of _ (by decide +kernel)) ggX5_read_X5_readPad
set_option maxRecDepth 20000 in
theorem ggX5_read_X5_record : GoodIn wsX5_read wsX5_record := goodIn_r _ [22, 23, 24, 3, 25, 26, 8, 27, 68, 69, 70, 71, 72, 73, 74, 75, 76, 77] (by decide +kernel) (by decide +kernel)
set_option maxRecDepth 20000 in
theorem gX5_read_X5_record : GoodIn wsX5_read (wsV RX5 49 RX5 yX5_record wsX5_record) := goodIn_app (goodIn_of _ (by decide +kernel)) ggX5_read_X5_record
set_option maxRecDepth 20000 in
theorem ggX5_read_X5_passNow : GoodIn wsX5_read wsX5_passNow := goodIn_r _ [31, 32, 33, 34, 8, 35, 3, 36, 37, 38, 39, 40, 41, 42, 43, 44, 45, 46, 47, 48, 49, 50, 51, 52, 53, 54, 55, 56, 57, 58, 59, 60, 61, 62, 63, 68, 69, 70, 71, 72, 73, 74, 75, 76, 77] (by decide +kernel) (by decide +kernel)
set_option maxRecDepth 20000 in
theorem gX5_read_X5_passNow : GoodIn wsX5_read (wsV RX5 121 RX5 yX5_passNow wsX5_passNow) := goodIn_app (goodIn_of _ (by decide +kernel)) ggX5_read_X5_passNow
set_option maxRecDepth 20000 in
theorem ggX5_read_X5_water : GoodIn wsX5_read wsX5_water := goodIn_r _ [67, 40, 41, 42, 8, 43, 3, 68, 69, 70, 71, 72, 73, 74, 75, 76, 77] (by decide +kernel) (by decide +kernel)
set_option maxRecDepth 20000 in
theorem gX5_read_X5_water : GoodIn wsX5_read (wsV RX5 124 RX5 yX5_water wsX5_water) := goodIn_app (goodIn_of _ (by decide +kernel)) ggX5_read_X5_water
theorem dX5_read_0 : decode cX5_read 0 = .ok (.aload_n 0, 1) := by decide +kernel
theorem dX5_read_1 : decode cX5_read 1 = .ok (.invokevirtual 142, 3) := by decide +kernel
theorem dX5_read_4 : decode cX5_read 4 = .ok (.ifCond .ne 6, 3) := by decide +kernel
theorem dX5_read_7 : decode cX5_read 7 = .ok (.bipush (-3), 2) := by decide +kernel
theorem dX5_read_9 : decode cX5_read 9 = .ok (.ireturn, 1) := by decide +kernel
theorem dX5_read_10 : decode cX5_read 10 = .ok (.iconst 0, 1) := by decide +kernel
theorem dX5_read_11 : decode cX5_read 11 = .ok (.istore_n 1, 1) := by decide +kernel
theorem dX5_read_12 : decode cX5_read 12 = .ok (.iconst 0, 1) := by decide +kernel
theorem dX5_read_13 : decode cX5_read 13 = .ok (.istore_n 2, 1) := by decide +kernel
theorem dX5_read_14 : decode cX5_read 14 = .ok (.iload_n 2, 1) := by decide +kernel
theorem dX5_read_15 : decode cX5_read 15 = .ok (.aload_n 0, 1) := by decide +kernel
theorem dX5_read_16 : decode cX5_read 16 = .ok (.getfield 136, 3) := by decide +kernel
theorem dX5_read_19 : decode cX5_read 19 = .ok (.if_icmp .ge 28, 3) := by decide +kernel
theorem dX5_read_22 : decode cX5_read 22 = .ok (.iload_n 1, 1) := by decide +kernel
theorem dX5_read_23 : decode cX5_read 23 = .ok (.aload_n 0, 1) := by decide +kernel
theorem dX5_read_24 : decode cX5_read 24 = .ok (.getfield 26, 3) := by decide +kernel
theorem dX5_read_27 : decode cX5_read 27 = .ok (.iload_n 2, 1) := by decide +kernel
theorem dX5_read_28 : decode cX5_read 28 = .ok (.iaload, 1) := by decide +kernel
theorem dX5_read_29 : decode cX5_read 29 = .ok (.bipush 11, 2) := by decide +kernel
theorem dX5_read_31 : decode cX5_read 31 = .ok (.if_icmp .ne 7, 3) := by decide +kernel
theorem dX5_read_34 : decode cX5_read 34 = .ok (.iconst 1, 1) := by decide +kernel
theorem dX5_read_35 : decode cX5_read 35 = .ok (.goto 4, 3) := by decide +kernel
theorem dX5_read_38 : decode cX5_read 38 = .ok (.iconst 0, 1) := by decide +kernel
theorem dX5_read_39 : decode cX5_read 39 = .ok (.iadd, 1) := by decide +kernel
theorem dX5_read_40 : decode cX5_read 40 = .ok (.istore_n 1, 1) := by decide +kernel
theorem dX5_read_41 : decode cX5_read 41 = .ok (.iinc 2 1, 3) := by decide +kernel
theorem dX5_read_44 : decode cX5_read 44 = .ok (.goto (-30), 3) := by decide +kernel
theorem dX5_read_47 : decode cX5_read 47 = .ok (.aload_n 0, 1) := by decide +kernel
theorem dX5_read_48 : decode cX5_read 48 = .ok (.getfield 7, 3) := by decide +kernel
theorem dX5_read_51 : decode cX5_read 51 = .ok (.iconst 4, 1) := by decide +kernel
theorem dX5_read_52 : decode cX5_read 52 = .ok (.iaload, 1) := by decide +kernel
theorem dX5_read_53 : decode cX5_read 53 = .ok (.iload_n 1, 1) := by decide +kernel
theorem dX5_read_54 : decode cX5_read 54 = .ok (.iadd, 1) := by decide +kernel
theorem dX5_read_55 : decode cX5_read 55 = .ok (.sipush 9999, 3) := by decide +kernel
theorem dX5_read_58 : decode cX5_read 58 = .ok (.if_icmp .le 6, 3) := by decide +kernel
theorem dX5_read_61 : decode cX5_read 61 = .ok (.bipush (-4), 2) := by decide +kernel
theorem dX5_read_63 : decode cX5_read 63 = .ok (.ireturn, 1) := by decide +kernel
theorem dX5_read_64 : decode cX5_read 64 = .ok (.aload_n 0, 1) := by decide +kernel
theorem dX5_read_65 : decode cX5_read 65 = .ok (.invokevirtual 49, 3) := by decide +kernel
theorem dX5_read_68 : decode cX5_read 68 = .ok (.iconst 0, 1) := by decide +kernel
theorem dX5_read_69 : decode cX5_read 69 = .ok (.istore_n 2, 1) := by decide +kernel
theorem dX5_read_70 : decode cX5_read 70 = .ok (.iload_n 2, 1) := by decide +kernel
theorem dX5_read_71 : decode cX5_read 71 = .ok (.aload_n 0, 1) := by decide +kernel
theorem dX5_read_72 : decode cX5_read 72 = .ok (.getfield 136, 3) := by decide +kernel
theorem dX5_read_75 : decode cX5_read 75 = .ok (.if_icmp .ge 19, 3) := by decide +kernel
theorem dX5_read_78 : decode cX5_read 78 = .ok (.aload_n 0, 1) := by decide +kernel
theorem dX5_read_79 : decode cX5_read 79 = .ok (.aload_n 0, 1) := by decide +kernel
theorem dX5_read_80 : decode cX5_read 80 = .ok (.getfield 26, 3) := by decide +kernel
theorem dX5_read_83 : decode cX5_read 83 = .ok (.iload_n 2, 1) := by decide +kernel
theorem dX5_read_84 : decode cX5_read 84 = .ok (.iaload, 1) := by decide +kernel
theorem dX5_read_85 : decode cX5_read 85 = .ok (.invokevirtual 121, 3) := by decide +kernel
theorem dX5_read_88 : decode cX5_read 88 = .ok (.iinc 2 1, 3) := by decide +kernel
theorem dX5_read_91 : decode cX5_read 91 = .ok (.goto (-21), 3) := by decide +kernel
theorem dX5_read_94 : decode cX5_read 94 = .ok (.aload_n 0, 1) := by decide +kernel
theorem dX5_read_95 : decode cX5_read 95 = .ok (.iconst 0, 1) := by decide +kernel
theorem dX5_read_96 : decode cX5_read 96 = .ok (.putfield 130, 3) := by decide +kernel
theorem dX5_read_99 : decode cX5_read 99 = .ok (.aload_n 0, 1) := by decide +kernel
theorem dX5_read_100 : decode cX5_read 100 = .ok (.invokevirtual 124, 3) := by decide +kernel
theorem dX5_read_103 : decode cX5_read 103 = .ok (.ireturn, 1) := by decide +kernel
set_option maxRecDepth 20000 in
theorem ggX5_permitted_X5_days : GoodIn wsX5_permitted wsX5_days := goodIn_r _ [5, 6, 7, 8, 9, 10, 11, 12, 13, 14, 15, 16] (by decide +kernel) (by decide +kernel)
set_option maxRecDepth 20000 in
theorem gX5_permitted_X5_days : GoodIn wsX5_permitted (wsV RX5 76 RX5 yX5_days wsX5_days) := goodIn_app (goodIn_of _ (by decide +kernel)) ggX5_permitted_X5_days
theorem dX5_permitted_0 : decode cX5_permitted 0 = .ok (.iconst 0, 1) := by decide +kernel
theorem dX5_permitted_1 : decode cX5_permitted 1 = .ok (.istore_n 2, 1) := by decide +kernel
theorem dX5_permitted_2 : decode cX5_permitted 2 = .ok (.iconst 0, 1) := by decide +kernel
theorem dX5_permitted_3 : decode cX5_permitted 3 = .ok (.istore_n 3, 1) := by decide +kernel
theorem dX5_permitted_4 : decode cX5_permitted 4 = .ok (.iload_n 3, 1) := by decide +kernel
theorem dX5_permitted_5 : decode cX5_permitted 5 = .ok (.bipush 6, 2) := by decide +kernel
theorem dX5_permitted_7 : decode cX5_permitted 7 = .ok (.if_icmp .ge 28, 3) := by decide +kernel
theorem dX5_permitted_10 : decode cX5_permitted 10 = .ok (.iload_n 2, 1) := by decide +kernel
theorem dX5_permitted_11 : decode cX5_permitted 11 = .ok (.aload_n 0, 1) := by decide +kernel
theorem dX5_permitted_12 : decode cX5_permitted 12 = .ok (.iload_n 3, 1) := by decide +kernel
theorem dX5_permitted_13 : decode cX5_permitted 13 = .ok (.iload_n 1, 1) := by decide +kernel
theorem dX5_permitted_14 : decode cX5_permitted 14 = .ok (.invokevirtual 76, 3) := by decide +kernel
theorem dX5_permitted_17 : decode cX5_permitted 17 = .ok (.ifCond .le 9, 3) := by decide +kernel
theorem dX5_permitted_20 : decode cX5_permitted 20 = .ok (.iconst 1, 1) := by decide +kernel
theorem dX5_permitted_21 : decode cX5_permitted 21 = .ok (.iload_n 3, 1) := by decide +kernel
theorem dX5_permitted_22 : decode cX5_permitted 22 = .ok (.ishl, 1) := by decide +kernel
theorem dX5_permitted_23 : decode cX5_permitted 23 = .ok (.goto 4, 3) := by decide +kernel
theorem dX5_permitted_26 : decode cX5_permitted 26 = .ok (.iconst 0, 1) := by decide +kernel
theorem dX5_permitted_27 : decode cX5_permitted 27 = .ok (.ior, 1) := by decide +kernel
theorem dX5_permitted_28 : decode cX5_permitted 28 = .ok (.istore_n 2, 1) := by decide +kernel
theorem dX5_permitted_29 : decode cX5_permitted 29 = .ok (.iinc 3 1, 3) := by decide +kernel
theorem dX5_permitted_32 : decode cX5_permitted 32 = .ok (.goto (-28), 3) := by decide +kernel
theorem dX5_permitted_35 : decode cX5_permitted 35 = .ok (.iload_n 2, 1) := by decide +kernel
theorem dX5_permitted_36 : decode cX5_permitted 36 = .ok (.ireturn, 1) := by decide +kernel
set_option maxRecDepth 20000 in
theorem ggX5_puddle_X5_isPuddle : GoodIn wsX5_puddle wsX5_isPuddle := goodIn_r _ [4, 5, 6, 3, 7] (by decide +kernel) (by decide +kernel)
set_option maxRecDepth 20000 in
theorem gX5_puddle_X5_isPuddle : GoodIn wsX5_puddle (va_wsS RX5 56 yX5_isPuddle wsX5_isPuddle) := goodIn_app (goodIn_of _ (by decide +kernel)) ggX5_puddle_X5_isPuddle
set_option maxRecDepth 20000 in
theorem ggX5_puddle_X5_of : GoodIn wsX5_puddle wsX5_of := goodIn_r _ [11, 12, 25, 26, 27, 28, 29, 30, 31, 32, 33, 34] (by decide +kernel) (by decide +kernel)
set_option maxRecDepth 20000 in
theorem gX5_puddle_X5_of : GoodIn wsX5_puddle (wsV RX5 37 RX5 yX5_of wsX5_of) := goodIn_app (goodIn_of _ (by decide +kernel)) ggX5_puddle_X5_of
set_option maxRecDepth 20000 in
theorem ggX5_puddle_X5_depth : GoodIn wsX5_puddle wsX5_depth := goodIn_r _ [16, 8, 9, 10, 3, 11, 12, 25, 26, 27, 28, 29, 30, 31, 32, 33, 34] (by decide +kernel) (by decide +kernel)
set_option maxRecDepth 20000 in
theorem gX5_puddle_X5_depth : GoodIn wsX5_puddle (wsV RX5 89 RX5 yX5_depth wsX5_depth) := goodIn_app (goodIn_of _ (by decide +kernel)) ggX5_puddle_X5_depth
set_option maxRecDepth 20000 in
theorem ggX5_puddle_X5_permitted : GoodIn wsX5_puddle wsX5_permitted := goodIn_r _ [20, 21, 22, 23, 3, 24, 12, 25, 26, 27, 28, 29, 30, 31, 32, 33, 34] (by decide +kernel) (by decide +kernel)
set_option maxRecDepth 20000 in
theorem gX5_puddle_X5_permitted : GoodIn wsX5_puddle (wsV RX5 146 RX5 yX5_permitted wsX5_permitted) := goodIn_app (goodIn_of _ (by decide +kernel)) ggX5_puddle_X5_permitted
theorem dX5_puddle_0 : decode cX5_puddle 0 = .ok (.iload_n 1, 1) := by decide +kernel
theorem dX5_puddle_1 : decode cX5_puddle 1 = .ok (.invokestatic 56, 3) := by decide +kernel
theorem dX5_puddle_4 : decode cX5_puddle 4 = .ok (.ifCond .ne 5, 3) := by decide +kernel
theorem dX5_puddle_7 : decode cX5_puddle 7 = .ok (.iconst (-1), 1) := by decide +kernel
theorem dX5_puddle_8 : decode cX5_puddle 8 = .ok (.ireturn, 1) := by decide +kernel
theorem dX5_puddle_9 : decode cX5_puddle 9 = .ok (.iload_n 2, 1) := by decide +kernel
theorem dX5_puddle_10 : decode cX5_puddle 10 = .ok (.tableswitch 82 0 6 #[42, 42, 49, 55, 62, 69, 76], 42) := by decide +kernel
theorem dX5_puddle_52 : decode cX5_puddle 52 = .ok (.aload_n 0, 1) := by decide +kernel
theorem dX5_puddle_53 : decode cX5_puddle 53 = .ok (.iload_n 1, 1) := by decide +kernel
theorem dX5_puddle_54 : decode cX5_puddle 54 = .ok (.iload_n 2, 1) := by decide +kernel
theorem dX5_puddle_55 : decode cX5_puddle 55 = .ok (.invokevirtual 37, 3) := by decide +kernel
theorem dX5_puddle_58 : decode cX5_puddle 58 = .ok (.ireturn, 1) := by decide +kernel
theorem dX5_puddle_59 : decode cX5_puddle 59 = .ok (.aload_n 0, 1) := by decide +kernel
theorem dX5_puddle_60 : decode cX5_puddle 60 = .ok (.iload_n 1, 1) := by decide +kernel
theorem dX5_puddle_61 : decode cX5_puddle 61 = .ok (.invokevirtual 89, 3) := by decide +kernel
theorem dX5_puddle_64 : decode cX5_puddle 64 = .ok (.ireturn, 1) := by decide +kernel
theorem dX5_puddle_65 : decode cX5_puddle 65 = .ok (.aload_n 0, 1) := by decide +kernel
theorem dX5_puddle_66 : decode cX5_puddle 66 = .ok (.iload_n 1, 1) := by decide +kernel
theorem dX5_puddle_67 : decode cX5_puddle 67 = .ok (.iconst 2, 1) := by decide +kernel
theorem dX5_puddle_68 : decode cX5_puddle 68 = .ok (.invokevirtual 37, 3) := by decide +kernel
theorem dX5_puddle_71 : decode cX5_puddle 71 = .ok (.ireturn, 1) := by decide +kernel
theorem dX5_puddle_72 : decode cX5_puddle 72 = .ok (.aload_n 0, 1) := by decide +kernel
theorem dX5_puddle_73 : decode cX5_puddle 73 = .ok (.iload_n 1, 1) := by decide +kernel
theorem dX5_puddle_74 : decode cX5_puddle 74 = .ok (.iconst 3, 1) := by decide +kernel
theorem dX5_puddle_75 : decode cX5_puddle 75 = .ok (.invokevirtual 37, 3) := by decide +kernel
theorem dX5_puddle_78 : decode cX5_puddle 78 = .ok (.ireturn, 1) := by decide +kernel
theorem dX5_puddle_79 : decode cX5_puddle 79 = .ok (.aload_n 0, 1) := by decide +kernel
theorem dX5_puddle_80 : decode cX5_puddle 80 = .ok (.iload_n 1, 1) := by decide +kernel
theorem dX5_puddle_81 : decode cX5_puddle 81 = .ok (.iconst 4, 1) := by decide +kernel
theorem dX5_puddle_82 : decode cX5_puddle 82 = .ok (.invokevirtual 37, 3) := by decide +kernel
theorem dX5_puddle_85 : decode cX5_puddle 85 = .ok (.ireturn, 1) := by decide +kernel
theorem dX5_puddle_86 : decode cX5_puddle 86 = .ok (.aload_n 0, 1) := by decide +kernel
theorem dX5_puddle_87 : decode cX5_puddle 87 = .ok (.iload_n 1, 1) := by decide +kernel
theorem dX5_puddle_88 : decode cX5_puddle 88 = .ok (.invokevirtual 146, 3) := by decide +kernel
theorem dX5_puddle_91 : decode cX5_puddle 91 = .ok (.ireturn, 1) := by decide +kernel
theorem dX5_puddle_92 : decode cX5_puddle 92 = .ok (.bipush (-2), 2) := by decide +kernel
theorem dX5_puddle_94 : decode cX5_puddle 94 = .ok (.ireturn, 1) := by decide +kernel
set_option maxRecDepth 20000 in
theorem ggX5_may_X5_reason : GoodIn wsX5_may wsX5_reason := goodIn_r _ [5, 6, 7, 8, 4, 9, 10, 11, 12, 13, 14, 15, 16, 17, 18, 19, 20, 21, 22, 23, 24, 25, 26, 27, 28, 29, 30, 31, 32, 33, 34, 35, 36] (by decide +kernel) (by decide +kernel)
set_option maxRecDepth 20000 in
theorem gX5_may_X5_reason : GoodIn wsX5_may (wsV RX5 92 RX5 yX5_reason wsX5_reason) := goodIn_app (goodIn_of _ (by decide +kernel)) ggX5_may_X5_reason
theorem dX5_may_0 : decode cX5_may 0 = .ok (.iconst 0, 1) := by decide +kernel
theorem dX5_may_1 : decode cX5_may 1 = .ok (.istore_n 3, 1) := by decide +kernel
theorem dX5_may_2 : decode cX5_may 2 = .ok (.iconst 0, 1) := by decide +kernel
theorem dX5_may_3 : decode cX5_may 3 = .ok (.istore 4, 2) := by decide +kernel
theorem dX5_may_5 : decode cX5_may 5 = .ok (.iload 4, 2) := by decide +kernel
theorem dX5_may_7 : decode cX5_may 7 = .ok (.bipush 12, 2) := by decide +kernel
theorem dX5_may_9 : decode cX5_may 9 = .ok (.if_icmp .ge 31, 3) := by decide +kernel
theorem dX5_may_12 : decode cX5_may 12 = .ok (.iload_n 3, 1) := by decide +kernel
theorem dX5_may_13 : decode cX5_may 13 = .ok (.aload_n 0, 1) := by decide +kernel
theorem dX5_may_14 : decode cX5_may 14 = .ok (.iload_n 1, 1) := by decide +kernel
theorem dX5_may_15 : decode cX5_may 15 = .ok (.iload 4, 2) := by decide +kernel
theorem dX5_may_17 : decode cX5_may 17 = .ok (.iload_n 2, 1) := by decide +kernel
theorem dX5_may_18 : decode cX5_may 18 = .ok (.invokevirtual 92, 3) := by decide +kernel
theorem dX5_may_21 : decode cX5_may 21 = .ok (.ifCond .ne 10, 3) := by decide +kernel
theorem dX5_may_24 : decode cX5_may 24 = .ok (.iconst 1, 1) := by decide +kernel
theorem dX5_may_25 : decode cX5_may 25 = .ok (.iload 4, 2) := by decide +kernel
theorem dX5_may_27 : decode cX5_may 27 = .ok (.ishl, 1) := by decide +kernel
theorem dX5_may_28 : decode cX5_may 28 = .ok (.goto 4, 3) := by decide +kernel
theorem dX5_may_31 : decode cX5_may 31 = .ok (.iconst 0, 1) := by decide +kernel
theorem dX5_may_32 : decode cX5_may 32 = .ok (.ior, 1) := by decide +kernel
theorem dX5_may_33 : decode cX5_may 33 = .ok (.istore_n 3, 1) := by decide +kernel
theorem dX5_may_34 : decode cX5_may 34 = .ok (.iinc 4 1, 3) := by decide +kernel
theorem dX5_may_37 : decode cX5_may 37 = .ok (.goto (-32), 3) := by decide +kernel
theorem dX5_may_40 : decode cX5_may 40 = .ok (.iload_n 3, 1) := by decide +kernel
theorem dX5_may_41 : decode cX5_may 41 = .ok (.ireturn, 1) := by decide +kernel
set_option maxRecDepth 20000 in
theorem ggX5_walker_X5_isWalker : GoodIn wsX5_walker wsX5_isWalker := goodIn_r _ [4, 5, 6, 3, 7] (by decide +kernel) (by decide +kernel)
set_option maxRecDepth 20000 in
theorem gX5_walker_X5_isWalker : GoodIn wsX5_walker (va_wsS RX5 67 yX5_isWalker wsX5_isWalker) := goodIn_app (goodIn_of _ (by decide +kernel)) ggX5_walker_X5_isWalker
set_option maxRecDepth 20000 in
theorem ggX5_walker_X5_ofWalker : GoodIn wsX5_walker wsX5_ofWalker := goodIn_r _ [11, 12, 45, 46, 47, 48, 49, 50, 51, 52, 53, 54] (by decide +kernel) (by decide +kernel)
set_option maxRecDepth 20000 in
theorem gX5_walker_X5_ofWalker : GoodIn wsX5_walker (wsV RX5 70 RX5 yX5_ofWalker wsX5_ofWalker) := goodIn_app (goodIn_of _ (by decide +kernel)) ggX5_walker_X5_ofWalker
set_option maxRecDepth 20000 in
theorem ggX5_walker_X5_permits : GoodIn wsX5_walker wsX5_permits := goodIn_r _ [16, 17, 18, 19, 3, 20, 12, 45, 46, 47, 48, 49, 50, 51, 52, 53, 54] (by decide +kernel) (by decide +kernel)
set_option maxRecDepth 20000 in
theorem gX5_walker_X5_permits : GoodIn wsX5_walker (wsV RX5 79 RX5 yX5_permits wsX5_permits) := goodIn_app (goodIn_of _ (by decide +kernel)) ggX5_walker_X5_permits
set_option maxRecDepth 20000 in
theorem ggX5_walker_X5_may : GoodIn wsX5_walker wsX5_may := goodIn_r _ [24, 25, 26, 27, 3, 28, 29, 30, 31, 32, 33, 34, 35, 36, 12, 17, 18, 19, 20, 37, 38, 39, 40, 41, 42, 43, 44, 45, 46, 47, 48, 49, 50, 51, 52, 53, 54] (by decide +kernel) (by decide +kernel)
set_option maxRecDepth 20000 in
theorem gX5_walker_X5_may : GoodIn wsX5_walker (wsV RX5 149 RX5 yX5_may wsX5_may) := goodIn_app (goodIn_of _ (by decide +kernel)) ggX5_walker_X5_may
theorem dX5_walker_0 : decode cX5_walker 0 = .ok (.iload_n 1, 1) := by decide +kernel
theorem dX5_walker_1 : decode cX5_walker 1 = .ok (.invokestatic 67, 3) := by decide +kernel
theorem dX5_walker_4 : decode cX5_walker 4 = .ok (.ifCond .ne 5, 3) := by decide +kernel
theorem dX5_walker_7 : decode cX5_walker 7 = .ok (.iconst (-1), 1) := by decide +kernel
theorem dX5_walker_8 : decode cX5_walker 8 = .ok (.ireturn, 1) := by decide +kernel
theorem dX5_walker_9 : decode cX5_walker 9 = .ok (.iload_n 2, 1) := by decide +kernel
theorem dX5_walker_10 : decode cX5_walker 10 = .ok (.tableswitch 63 0 5 #[38, 38, 38, 38, 45, 51], 38) := by decide +kernel
theorem dX5_walker_48 : decode cX5_walker 48 = .ok (.aload_n 0, 1) := by decide +kernel
theorem dX5_walker_49 : decode cX5_walker 49 = .ok (.iload_n 1, 1) := by decide +kernel
theorem dX5_walker_50 : decode cX5_walker 50 = .ok (.iload_n 2, 1) := by decide +kernel
theorem dX5_walker_51 : decode cX5_walker 51 = .ok (.invokevirtual 70, 3) := by decide +kernel
theorem dX5_walker_54 : decode cX5_walker 54 = .ok (.ireturn, 1) := by decide +kernel
theorem dX5_walker_55 : decode cX5_walker 55 = .ok (.aload_n 0, 1) := by decide +kernel
theorem dX5_walker_56 : decode cX5_walker 56 = .ok (.iload_n 1, 1) := by decide +kernel
theorem dX5_walker_57 : decode cX5_walker 57 = .ok (.invokevirtual 79, 3) := by decide +kernel
theorem dX5_walker_60 : decode cX5_walker 60 = .ok (.ireturn, 1) := by decide +kernel
theorem dX5_walker_61 : decode cX5_walker 61 = .ok (.aload_n 0, 1) := by decide +kernel
theorem dX5_walker_62 : decode cX5_walker 62 = .ok (.iload_n 1, 1) := by decide +kernel
theorem dX5_walker_63 : decode cX5_walker 63 = .ok (.aload_n 0, 1) := by decide +kernel
theorem dX5_walker_64 : decode cX5_walker 64 = .ok (.iload_n 1, 1) := by decide +kernel
theorem dX5_walker_65 : decode cX5_walker 65 = .ok (.iconst 0, 1) := by decide +kernel
theorem dX5_walker_66 : decode cX5_walker 66 = .ok (.invokevirtual 70, 3) := by decide +kernel
theorem dX5_walker_69 : decode cX5_walker 69 = .ok (.invokevirtual 149, 3) := by decide +kernel
theorem dX5_walker_72 : decode cX5_walker 72 = .ok (.ireturn, 1) := by decide +kernel
theorem dX5_walker_73 : decode cX5_walker 73 = .ok (.bipush (-2), 2) := by decide +kernel
theorem dX5_walker_75 : decode cX5_walker 75 = .ok (.ireturn, 1) := by decide +kernel
set_option maxRecDepth 20000 in
theorem ggX5_why_X5_isWalker : GoodIn wsX5_why wsX5_isWalker := goodIn_r _ [4, 5, 6, 3, 7] (by decide +kernel) (by decide +kernel)
set_option maxRecDepth 20000 in
theorem gX5_why_X5_isWalker : GoodIn wsX5_why (va_wsS RX5 67 yX5_isWalker wsX5_isWalker) := goodIn_app (goodIn_of _ (by decide +kernel)) ggX5_why_X5_isWalker
set_option maxRecDepth 20000 in
theorem ggX5_why_X5_isPuddle : GoodIn wsX5_why wsX5_isPuddle := goodIn_r _ [10, 5, 6, 3, 7] (by decide +kernel) (by decide +kernel)
set_option maxRecDepth 20000 in
theorem gX5_why_X5_isPuddle : GoodIn wsX5_why (va_wsS RX5 56 yX5_isPuddle wsX5_isPuddle) := goodIn_app (goodIn_of _ (by decide +kernel)) ggX5_why_X5_isPuddle
set_option maxRecDepth 20000 in
theorem ggX5_why_X5_reasonNow : GoodIn wsX5_why wsX5_reasonNow := goodIn_r _ [14, 15, 16, 17, 3, 18, 19, 20, 21, 22, 23, 24, 25, 26, 27, 28, 29, 30, 31, 32, 33, 34, 35, 36, 37, 38, 39, 40, 41, 42, 43, 44, 45, 46, 47, 48, 49, 50, 51, 52, 53] (by decide +kernel) (by decide +kernel)
set_option maxRecDepth 20000 in
theorem gX5_why_X5_reasonNow : GoodIn wsX5_why (wsV RX5 96 RX5 yX5_reasonNow wsX5_reasonNow) := goodIn_app (goodIn_of _ (by decide +kernel)) ggX5_why_X5_reasonNow
theorem dX5_why_0 : decode cX5_why 0 = .ok (.iload_n 1, 1) := by decide +kernel
theorem dX5_why_1 : decode cX5_why 1 = .ok (.invokestatic 67, 3) := by decide +kernel
theorem dX5_why_4 : decode cX5_why 4 = .ok (.ifCond .eq 19, 3) := by decide +kernel
theorem dX5_why_7 : decode cX5_why 7 = .ok (.iload_n 2, 1) := by decide +kernel
theorem dX5_why_8 : decode cX5_why 8 = .ok (.invokestatic 56, 3) := by decide +kernel
theorem dX5_why_11 : decode cX5_why 11 = .ok (.ifCond .eq 12, 3) := by decide +kernel
theorem dX5_why_14 : decode cX5_why 14 = .ok (.aload_n 0, 1) := by decide +kernel
theorem dX5_why_15 : decode cX5_why 15 = .ok (.iload_n 1, 1) := by decide +kernel
theorem dX5_why_16 : decode cX5_why 16 = .ok (.iload_n 2, 1) := by decide +kernel
theorem dX5_why_17 : decode cX5_why 17 = .ok (.invokevirtual 96, 3) := by decide +kernel
theorem dX5_why_20 : decode cX5_why 20 = .ok (.goto 4, 3) := by decide +kernel
theorem dX5_why_23 : decode cX5_why 23 = .ok (.iconst (-1), 1) := by decide +kernel
theorem dX5_why_24 : decode cX5_why 24 = .ok (.ireturn, 1) := by decide +kernel
set_option maxRecDepth 20000 in
theorem ggX5_holds_X5_isWalker : GoodIn wsX5_holds wsX5_isWalker := goodIn_r _ [4, 5, 6, 3, 7] (by decide +kernel) (by decide +kernel)
set_option maxRecDepth 20000 in
theorem gX5_holds_X5_isWalker : GoodIn wsX5_holds (va_wsS RX5 67 yX5_isWalker wsX5_isWalker) := goodIn_app (goodIn_of _ (by decide +kernel)) ggX5_holds_X5_isWalker
set_option maxRecDepth 20000 in
theorem ggX5_holds_X5_isPuddle : GoodIn wsX5_holds wsX5_isPuddle := goodIn_r _ [10, 5, 6, 3, 7] (by decide +kernel) (by decide +kernel)
set_option maxRecDepth 20000 in
theorem gX5_holds_X5_isPuddle : GoodIn wsX5_holds (va_wsS RX5 56 yX5_isPuddle wsX5_isPuddle) := goodIn_app (goodIn_of _ (by decide +kernel)) ggX5_holds_X5_isPuddle
set_option maxRecDepth 20000 in
theorem ggX5_holds_X5_days : GoodIn wsX5_holds wsX5_days := goodIn_r _ [14, 15, 16, 17, 18, 19, 20, 21, 22, 23, 24, 25] (by decide +kernel) (by decide +kernel)
set_option maxRecDepth 20000 in
theorem gX5_holds_X5_days : GoodIn wsX5_holds (wsV RX5 76 RX5 yX5_days wsX5_days) := goodIn_app (goodIn_of _ (by decide +kernel)) ggX5_holds_X5_days
theorem dX5_holds_0 : decode cX5_holds 0 = .ok (.iload_n 1, 1) := by decide +kernel
theorem dX5_holds_1 : decode cX5_holds 1 = .ok (.invokestatic 67, 3) := by decide +kernel
theorem dX5_holds_4 : decode cX5_holds 4 = .ok (.ifCond .eq 10, 3) := by decide +kernel
theorem dX5_holds_7 : decode cX5_holds 7 = .ok (.iload_n 2, 1) := by decide +kernel
theorem dX5_holds_8 : decode cX5_holds 8 = .ok (.invokestatic 56, 3) := by decide +kernel
theorem dX5_holds_11 : decode cX5_holds 11 = .ok (.ifCond .ne 5, 3) := by decide +kernel
theorem dX5_holds_14 : decode cX5_holds 14 = .ok (.iconst (-1), 1) := by decide +kernel
theorem dX5_holds_15 : decode cX5_holds 15 = .ok (.ireturn, 1) := by decide +kernel
theorem dX5_holds_16 : decode cX5_holds 16 = .ok (.aload_n 0, 1) := by decide +kernel
theorem dX5_holds_17 : decode cX5_holds 17 = .ok (.iload_n 1, 1) := by decide +kernel
theorem dX5_holds_18 : decode cX5_holds 18 = .ok (.iload_n 2, 1) := by decide +kernel
theorem dX5_holds_19 : decode cX5_holds 19 = .ok (.invokevirtual 76, 3) := by decide +kernel
theorem dX5_holds_22 : decode cX5_holds 22 = .ok (.ifCond .le 12, 3) := by decide +kernel
theorem dX5_holds_25 : decode cX5_holds 25 = .ok (.aload_n 0, 1) := by decide +kernel
theorem dX5_holds_26 : decode cX5_holds 26 = .ok (.iload_n 1, 1) := by decide +kernel
theorem dX5_holds_27 : decode cX5_holds 27 = .ok (.iload_n 2, 1) := by decide +kernel
theorem dX5_holds_28 : decode cX5_holds 28 = .ok (.invokevirtual 76, 3) := by decide +kernel
theorem dX5_holds_31 : decode cX5_holds 31 = .ok (.goto 5, 3) := by decide +kernel
theorem dX5_holds_34 : decode cX5_holds 34 = .ok (.bipush (-6), 2) := by decide +kernel
theorem dX5_holds_36 : decode cX5_holds 36 = .ok (.ireturn, 1) := by decide +kernel
set_option maxRecDepth 20000 in
theorem ggX5_puddlesWith_X5_of : GoodIn wsX5_puddlesWith wsX5_of := goodIn_r _ [5, 6, 7, 8, 9, 10, 11, 12, 13, 14, 15, 16] (by decide +kernel) (by decide +kernel)
set_option maxRecDepth 20000 in
theorem gX5_puddlesWith_X5_of : GoodIn wsX5_puddlesWith (wsV RX5 37 RX5 yX5_of wsX5_of) := goodIn_app (goodIn_of _ (by decide +kernel)) ggX5_puddlesWith_X5_of
theorem dX5_puddlesWith_0 : decode cX5_puddlesWith 0 = .ok (.iconst 0, 1) := by decide +kernel
theorem dX5_puddlesWith_1 : decode cX5_puddlesWith 1 = .ok (.istore_n 2, 1) := by decide +kernel
theorem dX5_puddlesWith_2 : decode cX5_puddlesWith 2 = .ok (.iconst 0, 1) := by decide +kernel
theorem dX5_puddlesWith_3 : decode cX5_puddlesWith 3 = .ok (.istore_n 3, 1) := by decide +kernel
theorem dX5_puddlesWith_4 : decode cX5_puddlesWith 4 = .ok (.iload_n 3, 1) := by decide +kernel
theorem dX5_puddlesWith_5 : decode cX5_puddlesWith 5 = .ok (.bipush 12, 2) := by decide +kernel
theorem dX5_puddlesWith_7 : decode cX5_puddlesWith 7 = .ok (.if_icmp .ge 20, 3) := by decide +kernel
theorem dX5_puddlesWith_10 : decode cX5_puddlesWith 10 = .ok (.iload_n 2, 1) := by decide +kernel
theorem dX5_puddlesWith_11 : decode cX5_puddlesWith 11 = .ok (.aload_n 0, 1) := by decide +kernel
theorem dX5_puddlesWith_12 : decode cX5_puddlesWith 12 = .ok (.iload_n 3, 1) := by decide +kernel
theorem dX5_puddlesWith_13 : decode cX5_puddlesWith 13 = .ok (.iload_n 1, 1) := by decide +kernel
theorem dX5_puddlesWith_14 : decode cX5_puddlesWith 14 = .ok (.invokevirtual 37, 3) := by decide +kernel
theorem dX5_puddlesWith_17 : decode cX5_puddlesWith 17 = .ok (.iload_n 3, 1) := by decide +kernel
theorem dX5_puddlesWith_18 : decode cX5_puddlesWith 18 = .ok (.ishl, 1) := by decide +kernel
theorem dX5_puddlesWith_19 : decode cX5_puddlesWith 19 = .ok (.ior, 1) := by decide +kernel
theorem dX5_puddlesWith_20 : decode cX5_puddlesWith 20 = .ok (.istore_n 2, 1) := by decide +kernel
theorem dX5_puddlesWith_21 : decode cX5_puddlesWith 21 = .ok (.iinc 3 1, 3) := by decide +kernel
theorem dX5_puddlesWith_24 : decode cX5_puddlesWith 24 = .ok (.goto (-20), 3) := by decide +kernel
theorem dX5_puddlesWith_27 : decode cX5_puddlesWith 27 = .ok (.iload_n 2, 1) := by decide +kernel
theorem dX5_puddlesWith_28 : decode cX5_puddlesWith 28 = .ok (.ireturn, 1) := by decide +kernel
set_option maxRecDepth 20000 in
theorem ggX5_allPermits_X5_permits : GoodIn wsX5_allPermits wsX5_permits := goodIn_r _ [5, 6, 7, 8, 4, 9, 10, 14, 15, 16, 17, 18, 19, 20, 21, 22, 23] (by decide +kernel) (by decide +kernel)
set_option maxRecDepth 20000 in
theorem gX5_allPermits_X5_permits : GoodIn wsX5_allPermits (wsV RX5 79 RX5 yX5_permits wsX5_permits) := goodIn_app (goodIn_of _ (by decide +kernel)) ggX5_allPermits_X5_permits
set_option maxRecDepth 20000 in
theorem ggX5_allPermits_X5_size : GoodIn wsX5_allPermits wsX5_size := goodIn_r _ [13] (by decide +kernel) (by decide +kernel)
set_option maxRecDepth 20000 in
theorem gX5_allPermits_X5_size : GoodIn wsX5_allPermits (va_wsS RX5 83 yX5_size wsX5_size) := goodIn_app (goodIn_of _ (by decide +kernel)) ggX5_allPermits_X5_size
theorem dX5_allPermits_0 : decode cX5_allPermits 0 = .ok (.iconst 0, 1) := by decide +kernel
theorem dX5_allPermits_1 : decode cX5_allPermits 1 = .ok (.istore_n 1, 1) := by decide +kernel
theorem dX5_allPermits_2 : decode cX5_allPermits 2 = .ok (.iconst 0, 1) := by decide +kernel
theorem dX5_allPermits_3 : decode cX5_allPermits 3 = .ok (.istore_n 2, 1) := by decide +kernel
theorem dX5_allPermits_4 : decode cX5_allPermits 4 = .ok (.iload_n 2, 1) := by decide +kernel
theorem dX5_allPermits_5 : decode cX5_allPermits 5 = .ok (.bipush 6, 2) := by decide +kernel
theorem dX5_allPermits_7 : decode cX5_allPermits 7 = .ok (.if_icmp .ge 20, 3) := by decide +kernel
theorem dX5_allPermits_10 : decode cX5_allPermits 10 = .ok (.iload_n 1, 1) := by decide +kernel
theorem dX5_allPermits_11 : decode cX5_allPermits 11 = .ok (.aload_n 0, 1) := by decide +kernel
theorem dX5_allPermits_12 : decode cX5_allPermits 12 = .ok (.iload_n 2, 1) := by decide +kernel
theorem dX5_allPermits_13 : decode cX5_allPermits 13 = .ok (.invokevirtual 79, 3) := by decide +kernel
theorem dX5_allPermits_16 : decode cX5_allPermits 16 = .ok (.invokestatic 83, 3) := by decide +kernel
theorem dX5_allPermits_19 : decode cX5_allPermits 19 = .ok (.iadd, 1) := by decide +kernel
theorem dX5_allPermits_20 : decode cX5_allPermits 20 = .ok (.istore_n 1, 1) := by decide +kernel
theorem dX5_allPermits_21 : decode cX5_allPermits 21 = .ok (.iinc 2 1, 3) := by decide +kernel
theorem dX5_allPermits_24 : decode cX5_allPermits 24 = .ok (.goto (-20), 3) := by decide +kernel
theorem dX5_allPermits_27 : decode cX5_allPermits 27 = .ok (.iload_n 1, 1) := by decide +kernel
theorem dX5_allPermits_28 : decode cX5_allPermits 28 = .ok (.ireturn, 1) := by decide +kernel
set_option maxRecDepth 20000 in
theorem ggX5_sumOfWalkers_X5_ofWalker : GoodIn wsX5_sumOfWalkers wsX5_ofWalker := goodIn_r _ [5, 6, 7, 8, 9, 10, 11, 12, 13, 14, 15, 16] (by decide +kernel) (by decide +kernel)
set_option maxRecDepth 20000 in
theorem gX5_sumOfWalkers_X5_ofWalker : GoodIn wsX5_sumOfWalkers (wsV RX5 70 RX5 yX5_ofWalker wsX5_ofWalker) := goodIn_app (goodIn_of _ (by decide +kernel)) ggX5_sumOfWalkers_X5_ofWalker
theorem dX5_sumOfWalkers_0 : decode cX5_sumOfWalkers 0 = .ok (.iconst 0, 1) := by decide +kernel
theorem dX5_sumOfWalkers_1 : decode cX5_sumOfWalkers 1 = .ok (.istore_n 2, 1) := by decide +kernel
theorem dX5_sumOfWalkers_2 : decode cX5_sumOfWalkers 2 = .ok (.iconst 0, 1) := by decide +kernel
theorem dX5_sumOfWalkers_3 : decode cX5_sumOfWalkers 3 = .ok (.istore_n 3, 1) := by decide +kernel
theorem dX5_sumOfWalkers_4 : decode cX5_sumOfWalkers 4 = .ok (.iload_n 3, 1) := by decide +kernel
theorem dX5_sumOfWalkers_5 : decode cX5_sumOfWalkers 5 = .ok (.bipush 6, 2) := by decide +kernel
theorem dX5_sumOfWalkers_7 : decode cX5_sumOfWalkers 7 = .ok (.if_icmp .ge 18, 3) := by decide +kernel
theorem dX5_sumOfWalkers_10 : decode cX5_sumOfWalkers 10 = .ok (.iload_n 2, 1) := by decide +kernel
theorem dX5_sumOfWalkers_11 : decode cX5_sumOfWalkers 11 = .ok (.aload_n 0, 1) := by decide +kernel
theorem dX5_sumOfWalkers_12 : decode cX5_sumOfWalkers 12 = .ok (.iload_n 3, 1) := by decide +kernel
theorem dX5_sumOfWalkers_13 : decode cX5_sumOfWalkers 13 = .ok (.iload_n 1, 1) := by decide +kernel
theorem dX5_sumOfWalkers_14 : decode cX5_sumOfWalkers 14 = .ok (.invokevirtual 70, 3) := by decide +kernel
theorem dX5_sumOfWalkers_17 : decode cX5_sumOfWalkers 17 = .ok (.iadd, 1) := by decide +kernel
theorem dX5_sumOfWalkers_18 : decode cX5_sumOfWalkers 18 = .ok (.istore_n 2, 1) := by decide +kernel
theorem dX5_sumOfWalkers_19 : decode cX5_sumOfWalkers 19 = .ok (.iinc 3 1, 3) := by decide +kernel
theorem dX5_sumOfWalkers_22 : decode cX5_sumOfWalkers 22 = .ok (.goto (-18), 3) := by decide +kernel
theorem dX5_sumOfWalkers_25 : decode cX5_sumOfWalkers 25 = .ok (.iload_n 2, 1) := by decide +kernel
theorem dX5_sumOfWalkers_26 : decode cX5_sumOfWalkers 26 = .ok (.ireturn, 1) := by decide +kernel
set_option maxRecDepth 20000 in
theorem ggX5_count_X5_water : GoodIn wsX5_count wsX5_water := goodIn_r _ [8, 9, 10, 11, 7, 12, 1, 40, 41, 42, 43, 44, 45, 46, 47, 48, 49] (by decide +kernel) (by decide +kernel)
set_option maxRecDepth 20000 in
theorem gX5_count_X5_water : GoodIn wsX5_count (wsV RX5 124 RX5 yX5_water wsX5_water) := goodIn_app (goodIn_of _ (by decide +kernel)) ggX5_count_X5_water
set_option maxRecDepth 20000 in
theorem ggX5_count_X5_puddlesWith : GoodIn wsX5_count wsX5_puddlesWith := goodIn_r _ [16, 9, 10, 11, 7, 12, 1, 40, 41, 42, 43, 44, 45, 46, 47, 48, 49] (by decide +kernel) (by decide +kernel)
set_option maxRecDepth 20000 in
theorem gX5_count_X5_puddlesWith : GoodIn wsX5_count (wsV RX5 152 RX5 yX5_puddlesWith wsX5_puddlesWith) := goodIn_app (goodIn_of _ (by decide +kernel)) ggX5_count_X5_puddlesWith
set_option maxRecDepth 20000 in
theorem ggX5_count_X5_allPermits : GoodIn wsX5_count wsX5_allPermits := goodIn_r _ [20, 21, 22, 23, 7, 24, 25, 26, 27, 28, 1, 29, 30, 31, 40, 41, 42, 43, 44, 45, 46, 47, 48, 49] (by decide +kernel) (by decide +kernel)
set_option maxRecDepth 20000 in
theorem gX5_count_X5_allPermits : GoodIn wsX5_count (wsV RX5 155 RX5 yX5_allPermits wsX5_allPermits) := goodIn_app (goodIn_of _ (by decide +kernel)) ggX5_count_X5_allPermits
set_option maxRecDepth 20000 in
theorem ggX5_count_X5_sumOfWalkers : GoodIn wsX5_count wsX5_sumOfWalkers := goodIn_r _ [35, 36, 37, 38, 7, 39, 1, 40, 41, 42, 43, 44, 45, 46, 47, 48, 49] (by decide +kernel) (by decide +kernel)
set_option maxRecDepth 20000 in
theorem gX5_count_X5_sumOfWalkers : GoodIn wsX5_count (wsV RX5 158 RX5 yX5_sumOfWalkers wsX5_sumOfWalkers) := goodIn_app (goodIn_of _ (by decide +kernel)) ggX5_count_X5_sumOfWalkers
theorem dX5_count_0 : decode cX5_count 0 = .ok (.iload_n 1, 1) := by decide +kernel
theorem dX5_count_1 : decode cX5_count 1 = .ok (.tableswitch 140 0 15 #[79, 79, 79, 79, 79, 86, 91, 91, 91, 103, 103, 114, 119, 119, 130, 135], 79) := by decide +kernel
theorem dX5_count_80 : decode cX5_count 80 = .ok (.aload_n 0, 1) := by decide +kernel
theorem dX5_count_81 : decode cX5_count 81 = .ok (.getfield 7, 3) := by decide +kernel
theorem dX5_count_84 : decode cX5_count 84 = .ok (.iload_n 1, 1) := by decide +kernel
theorem dX5_count_85 : decode cX5_count 85 = .ok (.iaload, 1) := by decide +kernel
theorem dX5_count_86 : decode cX5_count 86 = .ok (.ireturn, 1) := by decide +kernel
theorem dX5_count_87 : decode cX5_count 87 = .ok (.aload_n 0, 1) := by decide +kernel
theorem dX5_count_88 : decode cX5_count 88 = .ok (.invokevirtual 124, 3) := by decide +kernel
theorem dX5_count_91 : decode cX5_count 91 = .ok (.ireturn, 1) := by decide +kernel
theorem dX5_count_92 : decode cX5_count 92 = .ok (.aload_n 0, 1) := by decide +kernel
theorem dX5_count_93 : decode cX5_count 93 = .ok (.getfield 7, 3) := by decide +kernel
theorem dX5_count_96 : decode cX5_count 96 = .ok (.iconst 5, 1) := by decide +kernel
theorem dX5_count_97 : decode cX5_count 97 = .ok (.iload_n 1, 1) := by decide +kernel
theorem dX5_count_98 : decode cX5_count 98 = .ok (.iadd, 1) := by decide +kernel
theorem dX5_count_99 : decode cX5_count 99 = .ok (.bipush 6, 2) := by decide +kernel
theorem dX5_count_101 : decode cX5_count 101 = .ok (.isub, 1) := by decide +kernel
theorem dX5_count_102 : decode cX5_count 102 = .ok (.iaload, 1) := by decide +kernel
theorem dX5_count_103 : decode cX5_count 103 = .ok (.ireturn, 1) := by decide +kernel
theorem dX5_count_104 : decode cX5_count 104 = .ok (.aload_n 0, 1) := by decide +kernel
theorem dX5_count_105 : decode cX5_count 105 = .ok (.iconst 2, 1) := by decide +kernel
theorem dX5_count_106 : decode cX5_count 106 = .ok (.iload_n 1, 1) := by decide +kernel
theorem dX5_count_107 : decode cX5_count 107 = .ok (.iadd, 1) := by decide +kernel
theorem dX5_count_108 : decode cX5_count 108 = .ok (.bipush 9, 2) := by decide +kernel
theorem dX5_count_110 : decode cX5_count 110 = .ok (.isub, 1) := by decide +kernel
theorem dX5_count_111 : decode cX5_count 111 = .ok (.invokevirtual 152, 3) := by decide +kernel
theorem dX5_count_114 : decode cX5_count 114 = .ok (.ireturn, 1) := by decide +kernel
theorem dX5_count_115 : decode cX5_count 115 = .ok (.aload_n 0, 1) := by decide +kernel
theorem dX5_count_116 : decode cX5_count 116 = .ok (.invokevirtual 155, 3) := by decide +kernel
theorem dX5_count_119 : decode cX5_count 119 = .ok (.ireturn, 1) := by decide +kernel
theorem dX5_count_120 : decode cX5_count 120 = .ok (.aload_n 0, 1) := by decide +kernel
theorem dX5_count_121 : decode cX5_count 121 = .ok (.iconst 1, 1) := by decide +kernel
theorem dX5_count_122 : decode cX5_count 122 = .ok (.iload_n 1, 1) := by decide +kernel
theorem dX5_count_123 : decode cX5_count 123 = .ok (.iadd, 1) := by decide +kernel
theorem dX5_count_124 : decode cX5_count 124 = .ok (.bipush 12, 2) := by decide +kernel
theorem dX5_count_126 : decode cX5_count 126 = .ok (.isub, 1) := by decide +kernel
theorem dX5_count_127 : decode cX5_count 127 = .ok (.invokevirtual 158, 3) := by decide +kernel
theorem dX5_count_130 : decode cX5_count 130 = .ok (.ireturn, 1) := by decide +kernel
theorem dX5_count_131 : decode cX5_count 131 = .ok (.aload_n 0, 1) := by decide +kernel
theorem dX5_count_132 : decode cX5_count 132 = .ok (.getfield 130, 3) := by decide +kernel
theorem dX5_count_135 : decode cX5_count 135 = .ok (.ireturn, 1) := by decide +kernel
theorem dX5_count_136 : decode cX5_count 136 = .ok (.aload_n 0, 1) := by decide +kernel
theorem dX5_count_137 : decode cX5_count 137 = .ok (.getfield 41, 3) := by decide +kernel
theorem dX5_count_140 : decode cX5_count 140 = .ok (.ireturn, 1) := by decide +kernel
theorem dX5_count_141 : decode cX5_count 141 = .ok (.bipush (-2), 2) := by decide +kernel
theorem dX5_count_143 : decode cX5_count 143 = .ok (.ireturn, 1) := by decide +kernel
set_option maxRecDepth 20000 in
theorem ggX5_cost_X5_isWalker : GoodIn wsX5_cost wsX5_isWalker := goodIn_r _ [4, 5, 6, 3, 7] (by decide +kernel) (by decide +kernel)
set_option maxRecDepth 20000 in
theorem gX5_cost_X5_isWalker : GoodIn wsX5_cost (va_wsS RX5 67 yX5_isWalker wsX5_isWalker) := goodIn_app (goodIn_of _ (by decide +kernel)) ggX5_cost_X5_isWalker
set_option maxRecDepth 20000 in
theorem ggX5_cost_X5_isPuddle : GoodIn wsX5_cost wsX5_isPuddle := goodIn_r _ [10, 5, 6, 3, 7] (by decide +kernel) (by decide +kernel)
set_option maxRecDepth 20000 in
theorem gX5_cost_X5_isPuddle : GoodIn wsX5_cost (va_wsS RX5 56 yX5_isPuddle wsX5_isPuddle) := goodIn_app (goodIn_of _ (by decide +kernel)) ggX5_cost_X5_isPuddle
set_option maxRecDepth 20000 in
theorem ggX5_cost_X5_in : GoodIn wsX5_cost wsX5_in := goodIn_r _ [7] (by decide +kernel) (by decide +kernel)
set_option maxRecDepth 20000 in
theorem gX5_cost_X5_in : GoodIn wsX5_cost (va_wsS RX5 33 yX5_in wsX5_in) := goodIn_app (goodIn_of _ (by decide +kernel)) ggX5_cost_X5_in
set_option maxRecDepth 20000 in
theorem ggX5_cost_X5_allowed : GoodIn wsX5_cost wsX5_allowed := goodIn_r _ [14, 15, 16, 17, 3, 18, 19, 20, 21, 22, 23, 24, 25, 26, 27, 28, 29, 30, 31, 32, 33, 34, 35, 36, 37, 38, 39, 40, 41, 42, 43, 44, 45, 46, 47, 56, 57, 58, 59, 60, 61, 62, 63, 64, 65] (by decide +kernel) (by decide +kernel)
set_option maxRecDepth 20000 in
theorem gX5_cost_X5_allowed : GoodIn wsX5_cost (wsV RX5 102 RX5 yX5_allowed wsX5_allowed) := goodIn_app (goodIn_of _ (by decide +kernel)) ggX5_cost_X5_allowed
set_option maxRecDepth 20000 in
theorem ggX5_cost_X5_duties : GoodIn wsX5_cost wsX5_duties := goodIn_r _ [51, 52, 53, 54, 3, 55, 23, 40, 41, 42, 43, 32, 33, 34, 35, 44, 45, 46, 47, 56, 57, 58, 59, 60, 61, 62, 63, 64, 65] (by decide +kernel) (by decide +kernel)
set_option maxRecDepth 20000 in
theorem gX5_cost_X5_duties : GoodIn wsX5_cost (wsV RX5 105 RX5 yX5_duties wsX5_duties) := goodIn_app (goodIn_of _ (by decide +kernel)) ggX5_cost_X5_duties
theorem dX5_cost_0 : decode cX5_cost 0 = .ok (.iload_n 1, 1) := by decide +kernel
theorem dX5_cost_1 : decode cX5_cost 1 = .ok (.invokestatic 67, 3) := by decide +kernel
theorem dX5_cost_4 : decode cX5_cost 4 = .ok (.ifCond .eq 17, 3) := by decide +kernel
theorem dX5_cost_7 : decode cX5_cost 7 = .ok (.iload_n 2, 1) := by decide +kernel
theorem dX5_cost_8 : decode cX5_cost 8 = .ok (.invokestatic 56, 3) := by decide +kernel
theorem dX5_cost_11 : decode cX5_cost 11 = .ok (.ifCond .eq 10, 3) := by decide +kernel
theorem dX5_cost_14 : decode cX5_cost 14 = .ok (.iload_n 3, 1) := by decide +kernel
theorem dX5_cost_15 : decode cX5_cost 15 = .ok (.invokestatic 56, 3) := by decide +kernel
theorem dX5_cost_18 : decode cX5_cost 18 = .ok (.ifCond .ne 5, 3) := by decide +kernel
theorem dX5_cost_21 : decode cX5_cost 21 = .ok (.iconst (-1), 1) := by decide +kernel
theorem dX5_cost_22 : decode cX5_cost 22 = .ok (.ireturn, 1) := by decide +kernel
theorem dX5_cost_23 : decode cX5_cost 23 = .ok (.iload 4, 2) := by decide +kernel
theorem dX5_cost_25 : decode cX5_cost 25 = .ok (.iconst 0, 1) := by decide +kernel
theorem dX5_cost_26 : decode cX5_cost 26 = .ok (.iconst 1, 1) := by decide +kernel
theorem dX5_cost_27 : decode cX5_cost 27 = .ok (.invokestatic 33, 3) := by decide +kernel
theorem dX5_cost_30 : decode cX5_cost 30 = .ok (.ifCond .eq 19, 3) := by decide +kernel
theorem dX5_cost_33 : decode cX5_cost 33 = .ok (.aload_n 0, 1) := by decide +kernel
theorem dX5_cost_34 : decode cX5_cost 34 = .ok (.iload_n 2, 1) := by decide +kernel
theorem dX5_cost_35 : decode cX5_cost 35 = .ok (.iload_n 3, 1) := by decide +kernel
theorem dX5_cost_36 : decode cX5_cost 36 = .ok (.aload_n 0, 1) := by decide +kernel
theorem dX5_cost_37 : decode cX5_cost 37 = .ok (.iload_n 1, 1) := by decide +kernel
theorem dX5_cost_38 : decode cX5_cost 38 = .ok (.iload_n 2, 1) := by decide +kernel
theorem dX5_cost_39 : decode cX5_cost 39 = .ok (.iload_n 3, 1) := by decide +kernel
theorem dX5_cost_40 : decode cX5_cost 40 = .ok (.invokevirtual 102, 3) := by decide +kernel
theorem dX5_cost_43 : decode cX5_cost 43 = .ok (.invokevirtual 105, 3) := by decide +kernel
theorem dX5_cost_46 : decode cX5_cost 46 = .ok (.goto 5, 3) := by decide +kernel
theorem dX5_cost_49 : decode cX5_cost 49 = .ok (.bipush (-2), 2) := by decide +kernel
theorem dX5_cost_51 : decode cX5_cost 51 = .ok (.ireturn, 1) := by decide +kernel
set_option maxRecDepth 20000 in
theorem ggX5_untilDry_X5_isPuddle : GoodIn wsX5_untilDry wsX5_isPuddle := goodIn_r _ [5, 6, 7, 4, 8] (by decide +kernel) (by decide +kernel)
set_option maxRecDepth 20000 in
theorem gX5_untilDry_X5_isPuddle : GoodIn wsX5_untilDry (va_wsS RX5 56 yX5_isPuddle wsX5_isPuddle) := goodIn_app (goodIn_of _ (by decide +kernel)) ggX5_untilDry_X5_isPuddle
set_option maxRecDepth 20000 in
theorem ggX5_untilDry_X5_of : GoodIn wsX5_untilDry wsX5_of := goodIn_r _ [12, 1, 13, 14, 15, 16, 17, 18, 19, 20, 21, 22] (by decide +kernel) (by decide +kernel)
set_option maxRecDepth 20000 in
theorem gX5_untilDry_X5_of : GoodIn wsX5_untilDry (wsV RX5 37 RX5 yX5_of wsX5_of) := goodIn_app (goodIn_of _ (by decide +kernel)) ggX5_untilDry_X5_of
theorem dX5_untilDry_0 : decode cX5_untilDry 0 = .ok (.iload_n 1, 1) := by decide +kernel
theorem dX5_untilDry_1 : decode cX5_untilDry 1 = .ok (.invokestatic 56, 3) := by decide +kernel
theorem dX5_untilDry_4 : decode cX5_untilDry 4 = .ok (.ifCond .ne 5, 3) := by decide +kernel
theorem dX5_untilDry_7 : decode cX5_untilDry 7 = .ok (.iconst (-1), 1) := by decide +kernel
theorem dX5_untilDry_8 : decode cX5_untilDry 8 = .ok (.ireturn, 1) := by decide +kernel
theorem dX5_untilDry_9 : decode cX5_untilDry 9 = .ok (.aload_n 0, 1) := by decide +kernel
theorem dX5_untilDry_10 : decode cX5_untilDry 10 = .ok (.iload_n 1, 1) := by decide +kernel
theorem dX5_untilDry_11 : decode cX5_untilDry 11 = .ok (.iconst 1, 1) := by decide +kernel
theorem dX5_untilDry_12 : decode cX5_untilDry 12 = .ok (.invokevirtual 37, 3) := by decide +kernel
theorem dX5_untilDry_15 : decode cX5_untilDry 15 = .ok (.istore_n 2, 1) := by decide +kernel
theorem dX5_untilDry_16 : decode cX5_untilDry 16 = .ok (.iload_n 2, 1) := by decide +kernel
theorem dX5_untilDry_17 : decode cX5_untilDry 17 = .ok (.ifCond .ne 5, 3) := by decide +kernel
theorem dX5_untilDry_20 : decode cX5_untilDry 20 = .ok (.iconst 0, 1) := by decide +kernel
theorem dX5_untilDry_21 : decode cX5_untilDry 21 = .ok (.ireturn, 1) := by decide +kernel
theorem dX5_untilDry_22 : decode cX5_untilDry 22 = .ok (.aload_n 0, 1) := by decide +kernel
theorem dX5_untilDry_23 : decode cX5_untilDry 23 = .ok (.getfield 7, 3) := by decide +kernel
theorem dX5_untilDry_26 : decode cX5_untilDry 26 = .ok (.iconst 1, 1) := by decide +kernel
theorem dX5_untilDry_27 : decode cX5_untilDry 27 = .ok (.iaload, 1) := by decide +kernel
theorem dX5_untilDry_28 : decode cX5_untilDry 28 = .ok (.ifCond .ne 8, 3) := by decide +kernel
theorem dX5_untilDry_31 : decode cX5_untilDry 31 = .ok (.bipush (-6), 2) := by decide +kernel
theorem dX5_untilDry_33 : decode cX5_untilDry 33 = .ok (.goto 27, 3) := by decide +kernel
theorem dX5_untilDry_36 : decode cX5_untilDry 36 = .ok (.aload_n 0, 1) := by decide +kernel
theorem dX5_untilDry_37 : decode cX5_untilDry 37 = .ok (.iload_n 1, 1) := by decide +kernel
theorem dX5_untilDry_38 : decode cX5_untilDry 38 = .ok (.iconst 2, 1) := by decide +kernel
theorem dX5_untilDry_39 : decode cX5_untilDry 39 = .ok (.invokevirtual 37, 3) := by decide +kernel
theorem dX5_untilDry_42 : decode cX5_untilDry 42 = .ok (.iload_n 2, 1) := by decide +kernel
theorem dX5_untilDry_43 : decode cX5_untilDry 43 = .ok (.aload_n 0, 1) := by decide +kernel
theorem dX5_untilDry_44 : decode cX5_untilDry 44 = .ok (.getfield 7, 3) := by decide +kernel
theorem dX5_untilDry_47 : decode cX5_untilDry 47 = .ok (.iconst 1, 1) := by decide +kernel
theorem dX5_untilDry_48 : decode cX5_untilDry 48 = .ok (.iaload, 1) := by decide +kernel
theorem dX5_untilDry_49 : decode cX5_untilDry 49 = .ok (.iadd, 1) := by decide +kernel
theorem dX5_untilDry_50 : decode cX5_untilDry 50 = .ok (.iconst 1, 1) := by decide +kernel
theorem dX5_untilDry_51 : decode cX5_untilDry 51 = .ok (.isub, 1) := by decide +kernel
theorem dX5_untilDry_52 : decode cX5_untilDry 52 = .ok (.aload_n 0, 1) := by decide +kernel
theorem dX5_untilDry_53 : decode cX5_untilDry 53 = .ok (.getfield 7, 3) := by decide +kernel
theorem dX5_untilDry_56 : decode cX5_untilDry 56 = .ok (.iconst 1, 1) := by decide +kernel
theorem dX5_untilDry_57 : decode cX5_untilDry 57 = .ok (.iaload, 1) := by decide +kernel
theorem dX5_untilDry_58 : decode cX5_untilDry 58 = .ok (.idiv, 1) := by decide +kernel
theorem dX5_untilDry_59 : decode cX5_untilDry 59 = .ok (.iadd, 1) := by decide +kernel
theorem dX5_untilDry_60 : decode cX5_untilDry 60 = .ok (.ireturn, 1) := by decide +kernel
set_option maxRecDepth 20000 in
theorem ggX5_leastShoes_X5_isWalker : GoodIn wsX5_leastShoes wsX5_isWalker := goodIn_r _ [4, 5, 6, 3, 7] (by decide +kernel) (by decide +kernel)
set_option maxRecDepth 20000 in
theorem gX5_leastShoes_X5_isWalker : GoodIn wsX5_leastShoes (va_wsS RX5 67 yX5_isWalker wsX5_isWalker) := goodIn_app (goodIn_of _ (by decide +kernel)) ggX5_leastShoes_X5_isWalker
set_option maxRecDepth 20000 in
theorem ggX5_leastShoes_X5_may : GoodIn wsX5_leastShoes wsX5_may := goodIn_r _ [11, 12, 13, 14, 3, 15, 16, 17, 18, 19, 20, 21, 22, 23, 24, 25, 26, 27, 28, 29, 30, 31, 32, 33, 34, 35, 36, 37, 38, 39, 40, 41, 42, 43, 44, 45, 46] (by decide +kernel) (by decide +kernel)
set_option maxRecDepth 20000 in
theorem gX5_leastShoes_X5_may : GoodIn wsX5_leastShoes (wsV RX5 149 RX5 yX5_may wsX5_may) := goodIn_app (goodIn_of _ (by decide +kernel)) ggX5_leastShoes_X5_may
theorem dX5_leastShoes_0 : decode cX5_leastShoes 0 = .ok (.iload_n 1, 1) := by decide +kernel
theorem dX5_leastShoes_1 : decode cX5_leastShoes 1 = .ok (.invokestatic 67, 3) := by decide +kernel
theorem dX5_leastShoes_4 : decode cX5_leastShoes 4 = .ok (.ifCond .ne 5, 3) := by decide +kernel
theorem dX5_leastShoes_7 : decode cX5_leastShoes 7 = .ok (.iconst (-1), 1) := by decide +kernel
theorem dX5_leastShoes_8 : decode cX5_leastShoes 8 = .ok (.ireturn, 1) := by decide +kernel
theorem dX5_leastShoes_9 : decode cX5_leastShoes 9 = .ok (.bipush (-6), 2) := by decide +kernel
theorem dX5_leastShoes_11 : decode cX5_leastShoes 11 = .ok (.istore_n 2, 1) := by decide +kernel
theorem dX5_leastShoes_12 : decode cX5_leastShoes 12 = .ok (.iconst 3, 1) := by decide +kernel
theorem dX5_leastShoes_13 : decode cX5_leastShoes 13 = .ok (.istore_n 3, 1) := by decide +kernel
theorem dX5_leastShoes_14 : decode cX5_leastShoes 14 = .ok (.iload_n 3, 1) := by decide +kernel
theorem dX5_leastShoes_15 : decode cX5_leastShoes 15 = .ok (.ifCond .lt 27, 3) := by decide +kernel
theorem dX5_leastShoes_18 : decode cX5_leastShoes 18 = .ok (.aload_n 0, 1) := by decide +kernel
theorem dX5_leastShoes_19 : decode cX5_leastShoes 19 = .ok (.iload_n 1, 1) := by decide +kernel
theorem dX5_leastShoes_20 : decode cX5_leastShoes 20 = .ok (.iload_n 3, 1) := by decide +kernel
theorem dX5_leastShoes_21 : decode cX5_leastShoes 21 = .ok (.invokevirtual 149, 3) := by decide +kernel
theorem dX5_leastShoes_24 : decode cX5_leastShoes 24 = .ok (.sipush 4095, 3) := by decide +kernel
theorem dX5_leastShoes_27 : decode cX5_leastShoes 27 = .ok (.if_icmp .ne 7, 3) := by decide +kernel
theorem dX5_leastShoes_30 : decode cX5_leastShoes 30 = .ok (.iload_n 3, 1) := by decide +kernel
theorem dX5_leastShoes_31 : decode cX5_leastShoes 31 = .ok (.goto 4, 3) := by decide +kernel
theorem dX5_leastShoes_34 : decode cX5_leastShoes 34 = .ok (.iload_n 2, 1) := by decide +kernel
theorem dX5_leastShoes_35 : decode cX5_leastShoes 35 = .ok (.istore_n 2, 1) := by decide +kernel
theorem dX5_leastShoes_36 : decode cX5_leastShoes 36 = .ok (.iinc 3 (-1), 3) := by decide +kernel
theorem dX5_leastShoes_39 : decode cX5_leastShoes 39 = .ok (.goto (-25), 3) := by decide +kernel
theorem dX5_leastShoes_42 : decode cX5_leastShoes 42 = .ok (.iload_n 2, 1) := by decide +kernel
theorem dX5_leastShoes_43 : decode cX5_leastShoes 43 = .ok (.ireturn, 1) := by decide +kernel
set_option maxRecDepth 20000 in
theorem ggX5_longestWalk_X5_isWalker : GoodIn wsX5_longestWalk wsX5_isWalker := goodIn_r _ [4, 5, 6, 3, 7] (by decide +kernel) (by decide +kernel)
set_option maxRecDepth 20000 in
theorem gX5_longestWalk_X5_isWalker : GoodIn wsX5_longestWalk (va_wsS RX5 67 yX5_isWalker wsX5_isWalker) := goodIn_app (goodIn_of _ (by decide +kernel)) ggX5_longestWalk_X5_isWalker
set_option maxRecDepth 20000 in
theorem ggX5_longestWalk_X5_in : GoodIn wsX5_longestWalk wsX5_in := goodIn_r _ [7] (by decide +kernel) (by decide +kernel)
set_option maxRecDepth 20000 in
theorem gX5_longestWalk_X5_in : GoodIn wsX5_longestWalk (va_wsS RX5 33 yX5_in wsX5_in) := goodIn_app (goodIn_of _ (by decide +kernel)) ggX5_longestWalk_X5_in
set_option maxRecDepth 20000 in
theorem ggX5_longestWalk_X5_allowed : GoodIn wsX5_longestWalk wsX5_allowed := goodIn_r _ [11, 12, 13, 14, 3, 15, 16, 17, 18, 19, 20, 21, 22, 23, 24, 25, 26, 27, 28, 29, 30, 31, 32, 33, 34, 35, 36, 37, 38, 39, 40, 41, 42, 43, 44, 45, 46, 47, 48, 49, 50, 51, 52, 53, 54] (by decide +kernel) (by decide +kernel)
set_option maxRecDepth 20000 in
theorem gX5_longestWalk_X5_allowed : GoodIn wsX5_longestWalk (wsV RX5 102 RX5 yX5_allowed wsX5_allowed) := goodIn_app (goodIn_of _ (by decide +kernel)) ggX5_longestWalk_X5_allowed
theorem dX5_longestWalk_0 : decode cX5_longestWalk 0 = .ok (.iload_n 1, 1) := by decide +kernel
theorem dX5_longestWalk_1 : decode cX5_longestWalk 1 = .ok (.invokestatic 67, 3) := by decide +kernel
theorem dX5_longestWalk_4 : decode cX5_longestWalk 4 = .ok (.ifCond .ne 5, 3) := by decide +kernel
theorem dX5_longestWalk_7 : decode cX5_longestWalk 7 = .ok (.iconst (-1), 1) := by decide +kernel
theorem dX5_longestWalk_8 : decode cX5_longestWalk 8 = .ok (.ireturn, 1) := by decide +kernel
theorem dX5_longestWalk_9 : decode cX5_longestWalk 9 = .ok (.iload_n 2, 1) := by decide +kernel
theorem dX5_longestWalk_10 : decode cX5_longestWalk 10 = .ok (.iconst 0, 1) := by decide +kernel
theorem dX5_longestWalk_11 : decode cX5_longestWalk 11 = .ok (.iconst 1, 1) := by decide +kernel
theorem dX5_longestWalk_12 : decode cX5_longestWalk 12 = .ok (.invokestatic 33, 3) := by decide +kernel
theorem dX5_longestWalk_15 : decode cX5_longestWalk 15 = .ok (.ifCond .ne 6, 3) := by decide +kernel
theorem dX5_longestWalk_18 : decode cX5_longestWalk 18 = .ok (.bipush (-2), 2) := by decide +kernel
theorem dX5_longestWalk_20 : decode cX5_longestWalk 20 = .ok (.ireturn, 1) := by decide +kernel
theorem dX5_longestWalk_21 : decode cX5_longestWalk 21 = .ok (.iconst 0, 1) := by decide +kernel
theorem dX5_longestWalk_22 : decode cX5_longestWalk 22 = .ok (.istore_n 3, 1) := by decide +kernel
theorem dX5_longestWalk_23 : decode cX5_longestWalk 23 = .ok (.bipush (-6), 2) := by decide +kernel
theorem dX5_longestWalk_25 : decode cX5_longestWalk 25 = .ok (.istore 4, 2) := by decide +kernel
theorem dX5_longestWalk_27 : decode cX5_longestWalk 27 = .ok (.iconst 0, 1) := by decide +kernel
theorem dX5_longestWalk_28 : decode cX5_longestWalk 28 = .ok (.istore 5, 2) := by decide +kernel
theorem dX5_longestWalk_30 : decode cX5_longestWalk 30 = .ok (.iload 5, 2) := by decide +kernel
theorem dX5_longestWalk_32 : decode cX5_longestWalk 32 = .ok (.bipush 12, 2) := by decide +kernel
theorem dX5_longestWalk_34 : decode cX5_longestWalk 34 = .ok (.if_icmp .ge 48, 3) := by decide +kernel
theorem dX5_longestWalk_37 : decode cX5_longestWalk 37 = .ok (.aload_n 0, 1) := by decide +kernel
theorem dX5_longestWalk_38 : decode cX5_longestWalk 38 = .ok (.iload_n 1, 1) := by decide +kernel
theorem dX5_longestWalk_39 : decode cX5_longestWalk 39 = .ok (.iload 5, 2) := by decide +kernel
theorem dX5_longestWalk_41 : decode cX5_longestWalk 41 = .ok (.bipush 11, 2) := by decide +kernel
theorem dX5_longestWalk_43 : decode cX5_longestWalk 43 = .ok (.invokevirtual 102, 3) := by decide +kernel
theorem dX5_longestWalk_46 : decode cX5_longestWalk 46 = .ok (.istore 6, 2) := by decide +kernel
theorem dX5_longestWalk_48 : decode cX5_longestWalk 48 = .ok (.iload 6, 2) := by decide +kernel
theorem dX5_longestWalk_50 : decode cX5_longestWalk 50 = .ok (.iload_n 3, 1) := by decide +kernel
theorem dX5_longestWalk_51 : decode cX5_longestWalk 51 = .ok (.if_icmp .le 8, 3) := by decide +kernel
theorem dX5_longestWalk_54 : decode cX5_longestWalk 54 = .ok (.iload 5, 2) := by decide +kernel
theorem dX5_longestWalk_56 : decode cX5_longestWalk 56 = .ok (.goto 5, 3) := by decide +kernel
theorem dX5_longestWalk_59 : decode cX5_longestWalk 59 = .ok (.iload 4, 2) := by decide +kernel
theorem dX5_longestWalk_61 : decode cX5_longestWalk 61 = .ok (.istore 4, 2) := by decide +kernel
theorem dX5_longestWalk_63 : decode cX5_longestWalk 63 = .ok (.iload 6, 2) := by decide +kernel
theorem dX5_longestWalk_65 : decode cX5_longestWalk 65 = .ok (.iload_n 3, 1) := by decide +kernel
theorem dX5_longestWalk_66 : decode cX5_longestWalk 66 = .ok (.if_icmp .le 8, 3) := by decide +kernel
theorem dX5_longestWalk_69 : decode cX5_longestWalk 69 = .ok (.iload 6, 2) := by decide +kernel
theorem dX5_longestWalk_71 : decode cX5_longestWalk 71 = .ok (.goto 4, 3) := by decide +kernel
theorem dX5_longestWalk_74 : decode cX5_longestWalk 74 = .ok (.iload_n 3, 1) := by decide +kernel
theorem dX5_longestWalk_75 : decode cX5_longestWalk 75 = .ok (.istore_n 3, 1) := by decide +kernel
theorem dX5_longestWalk_76 : decode cX5_longestWalk 76 = .ok (.iinc 5 1, 3) := by decide +kernel
theorem dX5_longestWalk_79 : decode cX5_longestWalk 79 = .ok (.goto (-49), 3) := by decide +kernel
theorem dX5_longestWalk_82 : decode cX5_longestWalk 82 = .ok (.iload_n 2, 1) := by decide +kernel
theorem dX5_longestWalk_83 : decode cX5_longestWalk 83 = .ok (.ifCond .ne 7, 3) := by decide +kernel
theorem dX5_longestWalk_86 : decode cX5_longestWalk 86 = .ok (.iload_n 3, 1) := by decide +kernel
theorem dX5_longestWalk_87 : decode cX5_longestWalk 87 = .ok (.goto 5, 3) := by decide +kernel
theorem dX5_longestWalk_90 : decode cX5_longestWalk 90 = .ok (.iload 4, 2) := by decide +kernel
theorem dX5_longestWalk_92 : decode cX5_longestWalk 92 = .ok (.ireturn, 1) := by decide +kernel
theorem dJ6_bitCount_0f7a4_0 : decode cJ6_bitCount_0f7a4 0 = .ok (.iload_n 0, 1) := by decide +kernel
theorem dJ6_bitCount_0f7a4_1 : decode cJ6_bitCount_0f7a4 1 = .ok (.iload_n 0, 1) := by decide +kernel
theorem dJ6_bitCount_0f7a4_2 : decode cJ6_bitCount_0f7a4 2 = .ok (.iconst 1, 1) := by decide +kernel
theorem dJ6_bitCount_0f7a4_3 : decode cJ6_bitCount_0f7a4 3 = .ok (.iushr, 1) := by decide +kernel
theorem dJ6_bitCount_0f7a4_4 : decode cJ6_bitCount_0f7a4 4 = .ok (.ldc_w 265, 3) := by decide +kernel
theorem dJ6_bitCount_0f7a4_7 : decode cJ6_bitCount_0f7a4 7 = .ok (.iand, 1) := by decide +kernel
theorem dJ6_bitCount_0f7a4_8 : decode cJ6_bitCount_0f7a4 8 = .ok (.isub, 1) := by decide +kernel
theorem dJ6_bitCount_0f7a4_9 : decode cJ6_bitCount_0f7a4 9 = .ok (.istore_n 0, 1) := by decide +kernel
theorem dJ6_bitCount_0f7a4_10 : decode cJ6_bitCount_0f7a4 10 = .ok (.iload_n 0, 1) := by decide +kernel
theorem dJ6_bitCount_0f7a4_11 : decode cJ6_bitCount_0f7a4 11 = .ok (.ldc_w 266, 3) := by decide +kernel
theorem dJ6_bitCount_0f7a4_14 : decode cJ6_bitCount_0f7a4 14 = .ok (.iand, 1) := by decide +kernel
theorem dJ6_bitCount_0f7a4_15 : decode cJ6_bitCount_0f7a4 15 = .ok (.iload_n 0, 1) := by decide +kernel
theorem dJ6_bitCount_0f7a4_16 : decode cJ6_bitCount_0f7a4 16 = .ok (.iconst 2, 1) := by decide +kernel
theorem dJ6_bitCount_0f7a4_17 : decode cJ6_bitCount_0f7a4 17 = .ok (.iushr, 1) := by decide +kernel
theorem dJ6_bitCount_0f7a4_18 : decode cJ6_bitCount_0f7a4 18 = .ok (.ldc_w 266, 3) := by decide +kernel
theorem dJ6_bitCount_0f7a4_21 : decode cJ6_bitCount_0f7a4 21 = .ok (.iand, 1) := by decide +kernel
theorem dJ6_bitCount_0f7a4_22 : decode cJ6_bitCount_0f7a4 22 = .ok (.iadd, 1) := by decide +kernel
theorem dJ6_bitCount_0f7a4_23 : decode cJ6_bitCount_0f7a4 23 = .ok (.istore_n 0, 1) := by decide +kernel
theorem dJ6_bitCount_0f7a4_24 : decode cJ6_bitCount_0f7a4 24 = .ok (.iload_n 0, 1) := by decide +kernel
theorem dJ6_bitCount_0f7a4_25 : decode cJ6_bitCount_0f7a4 25 = .ok (.iload_n 0, 1) := by decide +kernel
theorem dJ6_bitCount_0f7a4_26 : decode cJ6_bitCount_0f7a4 26 = .ok (.iconst 4, 1) := by decide +kernel
theorem dJ6_bitCount_0f7a4_27 : decode cJ6_bitCount_0f7a4 27 = .ok (.iushr, 1) := by decide +kernel
theorem dJ6_bitCount_0f7a4_28 : decode cJ6_bitCount_0f7a4 28 = .ok (.iadd, 1) := by decide +kernel
theorem dJ6_bitCount_0f7a4_29 : decode cJ6_bitCount_0f7a4 29 = .ok (.ldc_w 267, 3) := by decide +kernel
theorem dJ6_bitCount_0f7a4_32 : decode cJ6_bitCount_0f7a4 32 = .ok (.iand, 1) := by decide +kernel
theorem dJ6_bitCount_0f7a4_33 : decode cJ6_bitCount_0f7a4 33 = .ok (.istore_n 0, 1) := by decide +kernel
theorem dJ6_bitCount_0f7a4_34 : decode cJ6_bitCount_0f7a4 34 = .ok (.iload_n 0, 1) := by decide +kernel
theorem dJ6_bitCount_0f7a4_35 : decode cJ6_bitCount_0f7a4 35 = .ok (.iload_n 0, 1) := by decide +kernel
theorem dJ6_bitCount_0f7a4_36 : decode cJ6_bitCount_0f7a4 36 = .ok (.bipush 8, 2) := by decide +kernel
theorem dJ6_bitCount_0f7a4_38 : decode cJ6_bitCount_0f7a4 38 = .ok (.iushr, 1) := by decide +kernel
theorem dJ6_bitCount_0f7a4_39 : decode cJ6_bitCount_0f7a4 39 = .ok (.iadd, 1) := by decide +kernel
theorem dJ6_bitCount_0f7a4_40 : decode cJ6_bitCount_0f7a4 40 = .ok (.istore_n 0, 1) := by decide +kernel
theorem dJ6_bitCount_0f7a4_41 : decode cJ6_bitCount_0f7a4 41 = .ok (.iload_n 0, 1) := by decide +kernel
theorem dJ6_bitCount_0f7a4_42 : decode cJ6_bitCount_0f7a4 42 = .ok (.iload_n 0, 1) := by decide +kernel
theorem dJ6_bitCount_0f7a4_43 : decode cJ6_bitCount_0f7a4 43 = .ok (.bipush 16, 2) := by decide +kernel
theorem dJ6_bitCount_0f7a4_45 : decode cJ6_bitCount_0f7a4 45 = .ok (.iushr, 1) := by decide +kernel
theorem dJ6_bitCount_0f7a4_46 : decode cJ6_bitCount_0f7a4 46 = .ok (.iadd, 1) := by decide +kernel
theorem dJ6_bitCount_0f7a4_47 : decode cJ6_bitCount_0f7a4 47 = .ok (.istore_n 0, 1) := by decide +kernel
theorem dJ6_bitCount_0f7a4_48 : decode cJ6_bitCount_0f7a4 48 = .ok (.iload_n 0, 1) := by decide +kernel
theorem dJ6_bitCount_0f7a4_49 : decode cJ6_bitCount_0f7a4 49 = .ok (.bipush 63, 2) := by decide +kernel
theorem dJ6_bitCount_0f7a4_51 : decode cJ6_bitCount_0f7a4 51 = .ok (.iand, 1) := by decide +kernel
theorem dJ6_bitCount_0f7a4_52 : decode cJ6_bitCount_0f7a4 52 = .ok (.ireturn, 1) := by decide +kernel
theorem dJ9_abs_0f7a4_0 : decode cJ9_abs_0f7a4 0 = .ok (.iload_n 0, 1) := by decide +kernel
theorem dJ9_abs_0f7a4_1 : decode cJ9_abs_0f7a4 1 = .ok (.ifCond .ge 8, 3) := by decide +kernel
theorem dJ9_abs_0f7a4_4 : decode cJ9_abs_0f7a4 4 = .ok (.iload_n 0, 1) := by decide +kernel
theorem dJ9_abs_0f7a4_5 : decode cJ9_abs_0f7a4 5 = .ok (.ineg, 1) := by decide +kernel
theorem dJ9_abs_0f7a4_6 : decode cJ9_abs_0f7a4 6 = .ok (.goto 4, 3) := by decide +kernel
theorem dJ9_abs_0f7a4_9 : decode cJ9_abs_0f7a4 9 = .ok (.iload_n 0, 1) := by decide +kernel
theorem dJ9_abs_0f7a4_10 : decode cJ9_abs_0f7a4 10 = .ok (.ireturn, 1) := by decide +kernel
theorem dJ9_min_7cf53_0 : decode cJ9_min_7cf53 0 = .ok (.iload_n 0, 1) := by decide +kernel
theorem dJ9_min_7cf53_1 : decode cJ9_min_7cf53 1 = .ok (.iload_n 1, 1) := by decide +kernel
theorem dJ9_min_7cf53_2 : decode cJ9_min_7cf53 2 = .ok (.if_icmp .gt 7, 3) := by decide +kernel
theorem dJ9_min_7cf53_5 : decode cJ9_min_7cf53 5 = .ok (.iload_n 0, 1) := by decide +kernel
theorem dJ9_min_7cf53_6 : decode cJ9_min_7cf53 6 = .ok (.goto 4, 3) := by decide +kernel
theorem dJ9_min_7cf53_9 : decode cJ9_min_7cf53 9 = .ok (.iload_n 1, 1) := by decide +kernel
theorem dJ9_min_7cf53_10 : decode cJ9_min_7cf53 10 = .ok (.ireturn, 1) := by decide +kernel
