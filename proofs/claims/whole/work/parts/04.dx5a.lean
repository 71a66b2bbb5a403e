set_option maxRecDepth 20000 in
theorem ggX5_init_X5_lay : GoodIn wsX5_init wsX5_lay := goodIn_r _ [16, 5, 17, 18, 19, 20, 21, 22, 23, 24, 25, 26] (by decide +kernel) (by decide +kernel)
set_option maxRecDepth 20000 in
theorem gX5_init_X5_lay : GoodIn wsX5_init (wsV RX5 29 RX5 yX5_lay wsX5_lay) := goodIn_app (goodIn_of _ (by decide +kernel)) ggX5_init_X5_lay
theorem dX5_init_0 : decode cX5_init 0 = .ok (.aload_n 0, 1) := by decide +kernel
theorem dX5_init_1 : decode cX5_init 1 = .ok (.invokespecial 1, 3) := by decide +kernel
theorem dX5_init_4 : decode cX5_init 4 = .ok (.aload_n 0, 1) := by decide +kernel
theorem dX5_init_5 : decode cX5_init 5 = .ok (.sipush 164, 3) := by decide +kernel
theorem dX5_init_8 : decode cX5_init 8 = .ok (.newarray .int, 2) := by decide +kernel
theorem dX5_init_10 : decode cX5_init 10 = .ok (.putfield 7, 3) := by decide +kernel
theorem dX5_init_13 : decode cX5_init 13 = .ok (.aload_n 0, 1) := by decide +kernel
theorem dX5_init_14 : decode cX5_init 14 = .ok (.sipush 984, 3) := by decide +kernel
theorem dX5_init_17 : decode cX5_init 17 = .ok (.newarray .int, 2) := by decide +kernel
theorem dX5_init_19 : decode cX5_init 19 = .ok (.putfield 13, 3) := by decide +kernel
theorem dX5_init_22 : decode cX5_init 22 = .ok (.aload_n 0, 1) := by decide +kernel
theorem dX5_init_23 : decode cX5_init 23 = .ok (.sipush 328, 3) := by decide +kernel
theorem dX5_init_26 : decode cX5_init 26 = .ok (.newarray .int, 2) := by decide +kernel
theorem dX5_init_28 : decode cX5_init 28 = .ok (.putfield 16, 3) := by decide +kernel
theorem dX5_init_31 : decode cX5_init 31 = .ok (.aload_n 0, 1) := by decide +kernel
theorem dX5_init_32 : decode cX5_init 32 = .ok (.iconst 2, 1) := by decide +kernel
theorem dX5_init_33 : decode cX5_init 33 = .ok (.newarray .boolean, 2) := by decide +kernel
theorem dX5_init_35 : decode cX5_init 35 = .ok (.putfield 19, 3) := by decide +kernel
theorem dX5_init_38 : decode cX5_init 38 = .ok (.aload_n 0, 1) := by decide +kernel
theorem dX5_init_39 : decode cX5_init 39 = .ok (.bipush 60, 2) := by decide +kernel
theorem dX5_init_41 : decode cX5_init 41 = .ok (.newarray .int, 2) := by decide +kernel
theorem dX5_init_43 : decode cX5_init 43 = .ok (.putfield 23, 3) := by decide +kernel
theorem dX5_init_46 : decode cX5_init 46 = .ok (.aload_n 0, 1) := by decide +kernel
theorem dX5_init_47 : decode cX5_init 47 = .ok (.bipush 60, 2) := by decide +kernel
theorem dX5_init_49 : decode cX5_init 49 = .ok (.newarray .int, 2) := by decide +kernel
theorem dX5_init_51 : decode cX5_init 51 = .ok (.putfield 26, 3) := by decide +kernel
theorem dX5_init_54 : decode cX5_init 54 = .ok (.aload_n 0, 1) := by decide +kernel
theorem dX5_init_55 : decode cX5_init 55 = .ok (.getfield 7, 3) := by decide +kernel
theorem dX5_init_58 : decode cX5_init 58 = .ok (.iconst 0, 1) := by decide +kernel
theorem dX5_init_59 : decode cX5_init 59 = .ok (.iconst 3, 1) := by decide +kernel
theorem dX5_init_60 : decode cX5_init 60 = .ok (.iastore, 1) := by decide +kernel
theorem dX5_init_61 : decode cX5_init 61 = .ok (.aload_n 0, 1) := by decide +kernel
theorem dX5_init_62 : decode cX5_init 62 = .ok (.getfield 7, 3) := by decide +kernel
theorem dX5_init_65 : decode cX5_init 65 = .ok (.iconst 1, 1) := by decide +kernel
theorem dX5_init_66 : decode cX5_init 66 = .ok (.iconst 2, 1) := by decide +kernel
theorem dX5_init_67 : decode cX5_init 67 = .ok (.iastore, 1) := by decide +kernel
theorem dX5_init_68 : decode cX5_init 68 = .ok (.aload_n 0, 1) := by decide +kernel
theorem dX5_init_69 : decode cX5_init 69 = .ok (.getfield 7, 3) := by decide +kernel
theorem dX5_init_72 : decode cX5_init 72 = .ok (.iconst 2, 1) := by decide +kernel
theorem dX5_init_73 : decode cX5_init 73 = .ok (.bipush 15, 2) := by decide +kernel
theorem dX5_init_75 : decode cX5_init 75 = .ok (.iastore, 1) := by decide +kernel
theorem dX5_init_76 : decode cX5_init 76 = .ok (.aload_n 0, 1) := by decide +kernel
theorem dX5_init_77 : decode cX5_init 77 = .ok (.getfield 7, 3) := by decide +kernel
theorem dX5_init_80 : decode cX5_init 80 = .ok (.iconst 3, 1) := by decide +kernel
theorem dX5_init_81 : decode cX5_init 81 = .ok (.iconst 5, 1) := by decide +kernel
theorem dX5_init_82 : decode cX5_init 82 = .ok (.iastore, 1) := by decide +kernel
theorem dX5_init_83 : decode cX5_init 83 = .ok (.iconst 0, 1) := by decide +kernel
theorem dX5_init_84 : decode cX5_init 84 = .ok (.istore_n 1, 1) := by decide +kernel
theorem dX5_init_85 : decode cX5_init 85 = .ok (.iload_n 1, 1) := by decide +kernel
theorem dX5_init_86 : decode cX5_init 86 = .ok (.bipush 12, 2) := by decide +kernel
theorem dX5_init_88 : decode cX5_init 88 = .ok (.if_icmp .ge 17, 3) := by decide +kernel
theorem dX5_init_91 : decode cX5_init 91 = .ok (.aload_n 0, 1) := by decide +kernel
theorem dX5_init_92 : decode cX5_init 92 = .ok (.iload_n 1, 1) := by decide +kernel
theorem dX5_init_93 : decode cX5_init 93 = .ok (.iconst 0, 1) := by decide +kernel
theorem dX5_init_94 : decode cX5_init 94 = .ok (.bipush 20, 2) := by decide +kernel
theorem dX5_init_96 : decode cX5_init 96 = .ok (.invokevirtual 29, 3) := by decide +kernel
theorem dX5_init_99 : decode cX5_init 99 = .ok (.iinc 1 1, 3) := by decide +kernel
theorem dX5_init_102 : decode cX5_init 102 = .ok (.goto (-17), 3) := by decide +kernel
theorem dX5_init_105 : decode cX5_init 105 = .ok (.return_, 1) := by decide +kernel
theorem dX5_in_0 : decode cX5_in 0 = .ok (.iload_n 0, 1) := by decide +kernel
theorem dX5_in_1 : decode cX5_in 1 = .ok (.iload_n 1, 1) := by decide +kernel
theorem dX5_in_2 : decode cX5_in 2 = .ok (.if_icmp .lt 12, 3) := by decide +kernel
theorem dX5_in_5 : decode cX5_in 5 = .ok (.iload_n 0, 1) := by decide +kernel
theorem dX5_in_6 : decode cX5_in 6 = .ok (.iload_n 2, 1) := by decide +kernel
theorem dX5_in_7 : decode cX5_in 7 = .ok (.if_icmp .gt 7, 3) := by decide +kernel
theorem dX5_in_10 : decode cX5_in 10 = .ok (.iconst 1, 1) := by decide +kernel
theorem dX5_in_11 : decode cX5_in 11 = .ok (.goto 4, 3) := by decide +kernel
theorem dX5_in_14 : decode cX5_in 14 = .ok (.iconst 0, 1) := by decide +kernel
theorem dX5_in_15 : decode cX5_in 15 = .ok (.ireturn, 1) := by decide +kernel
set_option maxRecDepth 20000 in
theorem ggX5_isPuddle_X5_in : GoodIn wsX5_isPuddle wsX5_in := goodIn_r _ [4] (by decide +kernel) (by decide +kernel)
set_option maxRecDepth 20000 in
theorem gX5_isPuddle_X5_in : GoodIn wsX5_isPuddle (va_wsS RX5 33 yX5_in wsX5_in) := goodIn_app (goodIn_of _ (by decide +kernel)) ggX5_isPuddle_X5_in
theorem dX5_isPuddle_0 : decode cX5_isPuddle 0 = .ok (.iload_n 0, 1) := by decide +kernel
theorem dX5_isPuddle_1 : decode cX5_isPuddle 1 = .ok (.iconst 0, 1) := by decide +kernel
theorem dX5_isPuddle_2 : decode cX5_isPuddle 2 = .ok (.bipush 11, 2) := by decide +kernel
theorem dX5_isPuddle_4 : decode cX5_isPuddle 4 = .ok (.invokestatic 33, 3) := by decide +kernel
theorem dX5_isPuddle_7 : decode cX5_isPuddle 7 = .ok (.ireturn, 1) := by decide +kernel
set_option maxRecDepth 20000 in
theorem ggX5_isWalker_X5_in : GoodIn wsX5_isWalker wsX5_in := goodIn_r _ [4] (by decide +kernel) (by decide +kernel)
set_option maxRecDepth 20000 in
theorem gX5_isWalker_X5_in : GoodIn wsX5_isWalker (va_wsS RX5 33 yX5_in wsX5_in) := goodIn_app (goodIn_of _ (by decide +kernel)) ggX5_isWalker_X5_in
theorem dX5_isWalker_0 : decode cX5_isWalker 0 = .ok (.iload_n 0, 1) := by decide +kernel
theorem dX5_isWalker_1 : decode cX5_isWalker 1 = .ok (.iconst 0, 1) := by decide +kernel
theorem dX5_isWalker_2 : decode cX5_isWalker 2 = .ok (.iconst 5, 1) := by decide +kernel
theorem dX5_isWalker_3 : decode cX5_isWalker 3 = .ok (.invokestatic 33, 3) := by decide +kernel
theorem dX5_isWalker_6 : decode cX5_isWalker 6 = .ok (.ireturn, 1) := by decide +kernel
theorem dX5_of_0 : decode cX5_of 0 = .ok (.aload_n 0, 1) := by decide +kernel
theorem dX5_of_1 : decode cX5_of 1 = .ok (.getfield 7, 3) := by decide +kernel
theorem dX5_of_4 : decode cX5_of 4 = .ok (.bipush 8, 2) := by decide +kernel
theorem dX5_of_6 : decode cX5_of 6 = .ok (.iconst 5, 1) := by decide +kernel
theorem dX5_of_7 : decode cX5_of 7 = .ok (.iload_n 1, 1) := by decide +kernel
theorem dX5_of_8 : decode cX5_of 8 = .ok (.imul, 1) := by decide +kernel
theorem dX5_of_9 : decode cX5_of 9 = .ok (.iadd, 1) := by decide +kernel
theorem dX5_of_10 : decode cX5_of 10 = .ok (.iload_n 2, 1) := by decide +kernel
theorem dX5_of_11 : decode cX5_of 11 = .ok (.iadd, 1) := by decide +kernel
theorem dX5_of_12 : decode cX5_of 12 = .ok (.iaload, 1) := by decide +kernel
theorem dX5_of_13 : decode cX5_of 13 = .ok (.ireturn, 1) := by decide +kernel
theorem dX5_lay_0 : decode cX5_lay 0 = .ok (.aload_n 0, 1) := by decide +kernel
theorem dX5_lay_1 : decode cX5_lay 1 = .ok (.getfield 7, 3) := by decide +kernel
theorem dX5_lay_4 : decode cX5_lay 4 = .ok (.bipush 8, 2) := by decide +kernel
theorem dX5_lay_6 : decode cX5_lay 6 = .ok (.iconst 5, 1) := by decide +kernel
theorem dX5_lay_7 : decode cX5_lay 7 = .ok (.iload_n 1, 1) := by decide +kernel
theorem dX5_lay_8 : decode cX5_lay 8 = .ok (.imul, 1) := by decide +kernel
theorem dX5_lay_9 : decode cX5_lay 9 = .ok (.iadd, 1) := by decide +kernel
theorem dX5_lay_10 : decode cX5_lay 10 = .ok (.iload_n 2, 1) := by decide +kernel
theorem dX5_lay_11 : decode cX5_lay 11 = .ok (.iadd, 1) := by decide +kernel
theorem dX5_lay_12 : decode cX5_lay 12 = .ok (.iload_n 3, 1) := by decide +kernel
theorem dX5_lay_13 : decode cX5_lay 13 = .ok (.iastore, 1) := by decide +kernel
theorem dX5_lay_14 : decode cX5_lay 14 = .ok (.return_, 1) := by decide +kernel
theorem dX5_ofWalker_0 : decode cX5_ofWalker 0 = .ok (.aload_n 0, 1) := by decide +kernel
theorem dX5_ofWalker_1 : decode cX5_ofWalker 1 = .ok (.getfield 7, 3) := by decide +kernel
theorem dX5_ofWalker_4 : decode cX5_ofWalker 4 = .ok (.bipush 68, 2) := by decide +kernel
theorem dX5_ofWalker_6 : decode cX5_ofWalker 6 = .ok (.iconst 4, 1) := by decide +kernel
theorem dX5_ofWalker_7 : decode cX5_ofWalker 7 = .ok (.iload_n 1, 1) := by decide +kernel
theorem dX5_ofWalker_8 : decode cX5_ofWalker 8 = .ok (.imul, 1) := by decide +kernel
theorem dX5_ofWalker_9 : decode cX5_ofWalker 9 = .ok (.iadd, 1) := by decide +kernel
theorem dX5_ofWalker_10 : decode cX5_ofWalker 10 = .ok (.iload_n 2, 1) := by decide +kernel
theorem dX5_ofWalker_11 : decode cX5_ofWalker 11 = .ok (.iadd, 1) := by decide +kernel
theorem dX5_ofWalker_12 : decode cX5_ofWalker 12 = .ok (.iaload, 1) := by decide +kernel
theorem dX5_ofWalker_13 : decode cX5_ofWalker 13 = .ok (.ireturn, 1) := by decide +kernel
theorem dX5_layWalker_0 : decode cX5_layWalker 0 = .ok (.aload_n 0, 1) := by decide +kernel
theorem dX5_layWalker_1 : decode cX5_layWalker 1 = .ok (.getfield 7, 3) := by decide +kernel
theorem dX5_layWalker_4 : decode cX5_layWalker 4 = .ok (.bipush 68, 2) := by decide +kernel
theorem dX5_layWalker_6 : decode cX5_layWalker 6 = .ok (.iconst 4, 1) := by decide +kernel
theorem dX5_layWalker_7 : decode cX5_layWalker 7 = .ok (.iload_n 1, 1) := by decide +kernel
theorem dX5_layWalker_8 : decode cX5_layWalker 8 = .ok (.imul, 1) := by decide +kernel
theorem dX5_layWalker_9 : decode cX5_layWalker 9 = .ok (.iadd, 1) := by decide +kernel
theorem dX5_layWalker_10 : decode cX5_layWalker 10 = .ok (.iload_n 2, 1) := by decide +kernel
theorem dX5_layWalker_11 : decode cX5_layWalker 11 = .ok (.iadd, 1) := by decide +kernel
theorem dX5_layWalker_12 : decode cX5_layWalker 12 = .ok (.iload_n 3, 1) := by decide +kernel
theorem dX5_layWalker_13 : decode cX5_layWalker 13 = .ok (.iastore, 1) := by decide +kernel
theorem dX5_layWalker_14 : decode cX5_layWalker 14 = .ok (.return_, 1) := by decide +kernel
theorem dX5_days_0 : decode cX5_days 0 = .ok (.aload_n 0, 1) := by decide +kernel
theorem dX5_days_1 : decode cX5_days 1 = .ok (.getfield 7, 3) := by decide +kernel
theorem dX5_days_4 : decode cX5_days 4 = .ok (.bipush 92, 2) := by decide +kernel
theorem dX5_days_6 : decode cX5_days 6 = .ok (.bipush 12, 2) := by decide +kernel
theorem dX5_days_8 : decode cX5_days 8 = .ok (.iload_n 1, 1) := by decide +kernel
theorem dX5_days_9 : decode cX5_days 9 = .ok (.imul, 1) := by decide +kernel
theorem dX5_days_10 : decode cX5_days 10 = .ok (.iadd, 1) := by decide +kernel
theorem dX5_days_11 : decode cX5_days 11 = .ok (.iload_n 2, 1) := by decide +kernel
theorem dX5_days_12 : decode cX5_days 12 = .ok (.iadd, 1) := by decide +kernel
theorem dX5_days_13 : decode cX5_days 13 = .ok (.iaload, 1) := by decide +kernel
theorem dX5_days_14 : decode cX5_days 14 = .ok (.ireturn, 1) := by decide +kernel
set_option maxRecDepth 20000 in
theorem ggX5_isFrozen_X5_of : GoodIn wsX5_isFrozen wsX5_of := goodIn_r _ [5, 6, 7, 8, 9, 10, 11, 12, 13, 14, 15, 16] (by decide +kernel) (by decide +kernel)
set_option maxRecDepth 20000 in
theorem gX5_isFrozen_X5_of : GoodIn wsX5_isFrozen (wsV RX5 37 RX5 yX5_of wsX5_of) := goodIn_app (goodIn_of _ (by decide +kernel)) ggX5_isFrozen_X5_of
theorem dX5_isFrozen_0 : decode cX5_isFrozen 0 = .ok (.aload_n 0, 1) := by decide +kernel
theorem dX5_isFrozen_1 : decode cX5_isFrozen 1 = .ok (.iload_n 1, 1) := by decide +kernel
theorem dX5_isFrozen_2 : decode cX5_isFrozen 2 = .ok (.iconst 2, 1) := by decide +kernel
theorem dX5_isFrozen_3 : decode cX5_isFrozen 3 = .ok (.invokevirtual 37, 3) := by decide +kernel
theorem dX5_isFrozen_6 : decode cX5_isFrozen 6 = .ok (.iconst 1, 1) := by decide +kernel
theorem dX5_isFrozen_7 : decode cX5_isFrozen 7 = .ok (.if_icmp .ne 7, 3) := by decide +kernel
theorem dX5_isFrozen_10 : decode cX5_isFrozen 10 = .ok (.iconst 1, 1) := by decide +kernel
theorem dX5_isFrozen_11 : decode cX5_isFrozen 11 = .ok (.goto 4, 3) := by decide +kernel
theorem dX5_isFrozen_14 : decode cX5_isFrozen 14 = .ok (.iconst 0, 1) := by decide +kernel
theorem dX5_isFrozen_15 : decode cX5_isFrozen 15 = .ok (.ireturn, 1) := by decide +kernel
set_option maxRecDepth 20000 in
theorem ggX5_depth_X5_of : GoodIn wsX5_depth wsX5_of := goodIn_r _ [5, 6, 7, 8, 9, 10, 11, 12, 13, 14, 15, 16] (by decide +kernel) (by decide +kernel)
set_option maxRecDepth 20000 in
theorem gX5_depth_X5_of : GoodIn wsX5_depth (wsV RX5 37 RX5 yX5_of wsX5_of) := goodIn_app (goodIn_of _ (by decide +kernel)) ggX5_depth_X5_of
theorem dX5_depth_0 : decode cX5_depth 0 = .ok (.aload_n 0, 1) := by decide +kernel
theorem dX5_depth_1 : decode cX5_depth 1 = .ok (.iload_n 1, 1) := by decide +kernel
theorem dX5_depth_2 : decode cX5_depth 2 = .ok (.iconst 1, 1) := by decide +kernel
theorem dX5_depth_3 : decode cX5_depth 3 = .ok (.invokevirtual 37, 3) := by decide +kernel
theorem dX5_depth_6 : decode cX5_depth 6 = .ok (.iconst 5, 1) := by decide +kernel
theorem dX5_depth_7 : decode cX5_depth 7 = .ok (.idiv, 1) := by decide +kernel
theorem dX5_depth_8 : decode cX5_depth 8 = .ok (.ireturn, 1) := by decide +kernel
theorem dX5_copyState_0 : decode cX5_copyState 0 = .ok (.iconst 0, 1) := by decide +kernel
theorem dX5_copyState_1 : decode cX5_copyState 1 = .ok (.istore 4, 2) := by decide +kernel
theorem dX5_copyState_3 : decode cX5_copyState 3 = .ok (.iload 4, 2) := by decide +kernel
theorem dX5_copyState_5 : decode cX5_copyState 5 = .ok (.sipush 164, 3) := by decide +kernel
theorem dX5_copyState_8 : decode cX5_copyState 8 = .ok (.if_icmp .ge 21, 3) := by decide +kernel
theorem dX5_copyState_11 : decode cX5_copyState 11 = .ok (.aload_n 2, 1) := by decide +kernel
theorem dX5_copyState_12 : decode cX5_copyState 12 = .ok (.iload_n 3, 1) := by decide +kernel
theorem dX5_copyState_13 : decode cX5_copyState 13 = .ok (.iload 4, 2) := by decide +kernel
theorem dX5_copyState_15 : decode cX5_copyState 15 = .ok (.iadd, 1) := by decide +kernel
theorem dX5_copyState_16 : decode cX5_copyState 16 = .ok (.aload_n 0, 1) := by decide +kernel
theorem dX5_copyState_17 : decode cX5_copyState 17 = .ok (.iload_n 1, 1) := by decide +kernel
theorem dX5_copyState_18 : decode cX5_copyState 18 = .ok (.iload 4, 2) := by decide +kernel
theorem dX5_copyState_20 : decode cX5_copyState 20 = .ok (.iadd, 1) := by decide +kernel
theorem dX5_copyState_21 : decode cX5_copyState 21 = .ok (.iaload, 1) := by decide +kernel
theorem dX5_copyState_22 : decode cX5_copyState 22 = .ok (.iastore, 1) := by decide +kernel
theorem dX5_copyState_23 : decode cX5_copyState 23 = .ok (.iinc 4 1, 3) := by decide +kernel
theorem dX5_copyState_26 : decode cX5_copyState 26 = .ok (.goto (-23), 3) := by decide +kernel
theorem dX5_copyState_29 : decode cX5_copyState 29 = .ok (.return_, 1) := by decide +kernel
set_option maxRecDepth 20000 in
theorem ggX5_record_X5_copyState : GoodIn wsX5_record wsX5_copyState := goodIn_r _ [7] (by decide +kernel) (by decide +kernel)
set_option maxRecDepth 20000 in
theorem gX5_record_X5_copyState : GoodIn wsX5_record (va_wsS RX5 45 yX5_copyState wsX5_copyState) := goodIn_app (goodIn_of _ (by decide +kernel)) ggX5_record_X5_copyState
theorem dX5_record_0 : decode cX5_record 0 = .ok (.aload_n 0, 1) := by decide +kernel
theorem dX5_record_1 : decode cX5_record 1 = .ok (.getfield 41, 3) := by decide +kernel
theorem dX5_record_4 : decode cX5_record 4 = .ok (.bipush 6, 2) := by decide +kernel
theorem dX5_record_6 : decode cX5_record 6 = .ok (.if_icmp .ne 44, 3) := by decide +kernel
theorem dX5_record_9 : decode cX5_record 9 = .ok (.iconst 0, 1) := by decide +kernel
theorem dX5_record_10 : decode cX5_record 10 = .ok (.istore_n 1, 1) := by decide +kernel
theorem dX5_record_11 : decode cX5_record 11 = .ok (.iload_n 1, 1) := by decide +kernel
theorem dX5_record_12 : decode cX5_record 12 = .ok (.sipush 820, 3) := by decide +kernel
theorem dX5_record_15 : decode cX5_record 15 = .ok (.if_icmp .ge 25, 3) := by decide +kernel
theorem dX5_record_18 : decode cX5_record 18 = .ok (.aload_n 0, 1) := by decide +kernel
theorem dX5_record_19 : decode cX5_record 19 = .ok (.getfield 13, 3) := by decide +kernel
theorem dX5_record_22 : decode cX5_record 22 = .ok (.iload_n 1, 1) := by decide +kernel
theorem dX5_record_23 : decode cX5_record 23 = .ok (.aload_n 0, 1) := by decide +kernel
theorem dX5_record_24 : decode cX5_record 24 = .ok (.getfield 13, 3) := by decide +kernel
theorem dX5_record_27 : decode cX5_record 27 = .ok (.iload_n 1, 1) := by decide +kernel
theorem dX5_record_28 : decode cX5_record 28 = .ok (.sipush 164, 3) := by decide +kernel
theorem dX5_record_31 : decode cX5_record 31 = .ok (.iadd, 1) := by decide +kernel
theorem dX5_record_32 : decode cX5_record 32 = .ok (.iaload, 1) := by decide +kernel
theorem dX5_record_33 : decode cX5_record 33 = .ok (.iastore, 1) := by decide +kernel
theorem dX5_record_34 : decode cX5_record 34 = .ok (.iinc 1 1, 3) := by decide +kernel
theorem dX5_record_37 : decode cX5_record 37 = .ok (.goto (-26), 3) := by decide +kernel
theorem dX5_record_40 : decode cX5_record 40 = .ok (.aload_n 0, 1) := by decide +kernel
theorem dX5_record_41 : decode cX5_record 41 = .ok (.dup, 1) := by decide +kernel
theorem dX5_record_42 : decode cX5_record 42 = .ok (.getfield 41, 3) := by decide +kernel
theorem dX5_record_45 : decode cX5_record 45 = .ok (.iconst 1, 1) := by decide +kernel
theorem dX5_record_46 : decode cX5_record 46 = .ok (.isub, 1) := by decide +kernel
theorem dX5_record_47 : decode cX5_record 47 = .ok (.putfield 41, 3) := by decide +kernel
theorem dX5_record_50 : decode cX5_record 50 = .ok (.aload_n 0, 1) := by decide +kernel
theorem dX5_record_51 : decode cX5_record 51 = .ok (.getfield 7, 3) := by decide +kernel
theorem dX5_record_54 : decode cX5_record 54 = .ok (.iconst 0, 1) := by decide +kernel
theorem dX5_record_55 : decode cX5_record 55 = .ok (.aload_n 0, 1) := by decide +kernel
theorem dX5_record_56 : decode cX5_record 56 = .ok (.getfield 13, 3) := by decide +kernel
theorem dX5_record_59 : decode cX5_record 59 = .ok (.sipush 164, 3) := by decide +kernel
theorem dX5_record_62 : decode cX5_record 62 = .ok (.aload_n 0, 1) := by decide +kernel
theorem dX5_record_63 : decode cX5_record 63 = .ok (.getfield 41, 3) := by decide +kernel
theorem dX5_record_66 : decode cX5_record 66 = .ok (.imul, 1) := by decide +kernel
theorem dX5_record_67 : decode cX5_record 67 = .ok (.invokestatic 45, 3) := by decide +kernel
theorem dX5_record_70 : decode cX5_record 70 = .ok (.aload_n 0, 1) := by decide +kernel
theorem dX5_record_71 : decode cX5_record 71 = .ok (.dup, 1) := by decide +kernel
theorem dX5_record_72 : decode cX5_record 72 = .ok (.getfield 41, 3) := by decide +kernel
theorem dX5_record_75 : decode cX5_record 75 = .ok (.iconst 1, 1) := by decide +kernel
theorem dX5_record_76 : decode cX5_record 76 = .ok (.iadd, 1) := by decide +kernel
theorem dX5_record_77 : decode cX5_record 77 = .ok (.putfield 41, 3) := by decide +kernel
theorem dX5_record_80 : decode cX5_record 80 = .ok (.return_, 1) := by decide +kernel
set_option maxRecDepth 20000 in
theorem ggX5_undo_X5_copyState : GoodIn wsX5_undo wsX5_copyState := goodIn_r _ [7] (by decide +kernel) (by decide +kernel)
set_option maxRecDepth 20000 in
theorem gX5_undo_X5_copyState : GoodIn wsX5_undo (va_wsS RX5 45 yX5_copyState wsX5_copyState) := goodIn_app (goodIn_of _ (by decide +kernel)) ggX5_undo_X5_copyState
theorem dX5_undo_0 : decode cX5_undo 0 = .ok (.aload_n 0, 1) := by decide +kernel
theorem dX5_undo_1 : decode cX5_undo 1 = .ok (.getfield 41, 3) := by decide +kernel
theorem dX5_undo_4 : decode cX5_undo 4 = .ok (.ifCond .ne 6, 3) := by decide +kernel
theorem dX5_undo_7 : decode cX5_undo 7 = .ok (.bipush (-5), 2) := by decide +kernel
theorem dX5_undo_9 : decode cX5_undo 9 = .ok (.ireturn, 1) := by decide +kernel
theorem dX5_undo_10 : decode cX5_undo 10 = .ok (.aload_n 0, 1) := by decide +kernel
theorem dX5_undo_11 : decode cX5_undo 11 = .ok (.dup, 1) := by decide +kernel
theorem dX5_undo_12 : decode cX5_undo 12 = .ok (.getfield 41, 3) := by decide +kernel
theorem dX5_undo_15 : decode cX5_undo 15 = .ok (.iconst 1, 1) := by decide +kernel
theorem dX5_undo_16 : decode cX5_undo 16 = .ok (.isub, 1) := by decide +kernel
theorem dX5_undo_17 : decode cX5_undo 17 = .ok (.putfield 41, 3) := by decide +kernel
theorem dX5_undo_20 : decode cX5_undo 20 = .ok (.aload_n 0, 1) := by decide +kernel
theorem dX5_undo_21 : decode cX5_undo 21 = .ok (.getfield 13, 3) := by decide +kernel
theorem dX5_undo_24 : decode cX5_undo 24 = .ok (.sipush 164, 3) := by decide +kernel
theorem dX5_undo_27 : decode cX5_undo 27 = .ok (.aload_n 0, 1) := by decide +kernel
theorem dX5_undo_28 : decode cX5_undo 28 = .ok (.getfield 41, 3) := by decide +kernel
theorem dX5_undo_31 : decode cX5_undo 31 = .ok (.imul, 1) := by decide +kernel
theorem dX5_undo_32 : decode cX5_undo 32 = .ok (.aload_n 0, 1) := by decide +kernel
theorem dX5_undo_33 : decode cX5_undo 33 = .ok (.getfield 7, 3) := by decide +kernel
theorem dX5_undo_36 : decode cX5_undo 36 = .ok (.iconst 0, 1) := by decide +kernel
theorem dX5_undo_37 : decode cX5_undo 37 = .ok (.invokestatic 45, 3) := by decide +kernel
theorem dX5_undo_40 : decode cX5_undo 40 = .ok (.aload_n 0, 1) := by decide +kernel
theorem dX5_undo_41 : decode cX5_undo 41 = .ok (.getfield 41, 3) := by decide +kernel
theorem dX5_undo_44 : decode cX5_undo 44 = .ok (.ireturn, 1) := by decide +kernel
set_option maxRecDepth 20000 in
theorem ggX5_save_X5_in : GoodIn wsX5_save wsX5_in := goodIn_r _ [7] (by decide +kernel) (by decide +kernel)
set_option maxRecDepth 20000 in
theorem gX5_save_X5_in : GoodIn wsX5_save (va_wsS RX5 33 yX5_in wsX5_in) := goodIn_app (goodIn_of _ (by decide +kernel)) ggX5_save_X5_in
set_option maxRecDepth 20000 in
theorem ggX5_save_X5_copyState : GoodIn wsX5_save wsX5_copyState := goodIn_r _ [10] (by decide +kernel) (by decide +kernel)
set_option maxRecDepth 20000 in
theorem gX5_save_X5_copyState : GoodIn wsX5_save (va_wsS RX5 45 yX5_copyState wsX5_copyState) := goodIn_app (goodIn_of _ (by decide +kernel)) ggX5_save_X5_copyState
theorem dX5_save_0 : decode cX5_save 0 = .ok (.iload_n 1, 1) := by decide +kernel
theorem dX5_save_1 : decode cX5_save 1 = .ok (.iconst 0, 1) := by decide +kernel
theorem dX5_save_2 : decode cX5_save 2 = .ok (.iconst 1, 1) := by decide +kernel
theorem dX5_save_3 : decode cX5_save 3 = .ok (.invokestatic 33, 3) := by decide +kernel
theorem dX5_save_6 : decode cX5_save 6 = .ok (.ifCond .ne 6, 3) := by decide +kernel
theorem dX5_save_9 : decode cX5_save 9 = .ok (.bipush (-2), 2) := by decide +kernel
theorem dX5_save_11 : decode cX5_save 11 = .ok (.ireturn, 1) := by decide +kernel
theorem dX5_save_12 : decode cX5_save 12 = .ok (.aload_n 0, 1) := by decide +kernel
theorem dX5_save_13 : decode cX5_save 13 = .ok (.getfield 7, 3) := by decide +kernel
theorem dX5_save_16 : decode cX5_save 16 = .ok (.iconst 0, 1) := by decide +kernel
theorem dX5_save_17 : decode cX5_save 17 = .ok (.aload_n 0, 1) := by decide +kernel
theorem dX5_save_18 : decode cX5_save 18 = .ok (.getfield 16, 3) := by decide +kernel
theorem dX5_save_21 : decode cX5_save 21 = .ok (.sipush 164, 3) := by decide +kernel
theorem dX5_save_24 : decode cX5_save 24 = .ok (.iload_n 1, 1) := by decide +kernel
theorem dX5_save_25 : decode cX5_save 25 = .ok (.imul, 1) := by decide +kernel
theorem dX5_save_26 : decode cX5_save 26 = .ok (.invokestatic 45, 3) := by decide +kernel
theorem dX5_save_29 : decode cX5_save 29 = .ok (.aload_n 0, 1) := by decide +kernel
theorem dX5_save_30 : decode cX5_save 30 = .ok (.getfield 19, 3) := by decide +kernel
theorem dX5_save_33 : decode cX5_save 33 = .ok (.iload_n 1, 1) := by decide +kernel
theorem dX5_save_34 : decode cX5_save 34 = .ok (.iconst 1, 1) := by decide +kernel
theorem dX5_save_35 : decode cX5_save 35 = .ok (.bastore, 1) := by decide +kernel
theorem dX5_save_36 : decode cX5_save 36 = .ok (.aload_n 0, 1) := by decide +kernel
theorem dX5_save_37 : decode cX5_save 37 = .ok (.getfield 7, 3) := by decide +kernel
theorem dX5_save_40 : decode cX5_save 40 = .ok (.iconst 4, 1) := by decide +kernel
theorem dX5_save_41 : decode cX5_save 41 = .ok (.iaload, 1) := by decide +kernel
theorem dX5_save_42 : decode cX5_save 42 = .ok (.ireturn, 1) := by decide +kernel
set_option maxRecDepth 20000 in
theorem ggX5_restore_X5_in : GoodIn wsX5_restore wsX5_in := goodIn_r _ [7] (by decide +kernel) (by decide +kernel)
set_option maxRecDepth 20000 in
theorem gX5_restore_X5_in : GoodIn wsX5_restore (va_wsS RX5 33 yX5_in wsX5_in) := goodIn_app (goodIn_of _ (by decide +kernel)) ggX5_restore_X5_in
set_option maxRecDepth 20000 in
theorem ggX5_restore_X5_record : GoodIn wsX5_restore wsX5_record := goodIn_r _ [11, 12, 13, 3, 14, 15, 6, 16, 17, 18, 19, 20, 21, 22, 23, 24, 25, 26] (by decide +kernel) (by decide +kernel)
set_option maxRecDepth 20000 in
theorem gX5_restore_X5_record : GoodIn wsX5_restore (wsV RX5 49 RX5 yX5_record wsX5_record) := goodIn_app (goodIn_of _ (by decide +kernel)) ggX5_restore_X5_record
set_option maxRecDepth 20000 in
theorem ggX5_restore_X5_copyState : GoodIn wsX5_restore wsX5_copyState := goodIn_r _ [16] (by decide +kernel) (by decide +kernel)
set_option maxRecDepth 20000 in
theorem gX5_restore_X5_copyState : GoodIn wsX5_restore (va_wsS RX5 45 yX5_copyState wsX5_copyState) := goodIn_app (goodIn_of _ (by decide +kernel)) ggX5_restore_X5_copyState
theorem dX5_restore_0 : decode cX5_restore 0 = .ok (.iload_n 1, 1) := by decide +kernel
theorem dX5_restore_1 : decode cX5_restore 1 = .ok (.iconst 0, 1) := by decide +kernel
theorem dX5_restore_2 : decode cX5_restore 2 = .ok (.iconst 1, 1) := by decide +kernel
theorem dX5_restore_3 : decode cX5_restore 3 = .ok (.invokestatic 33, 3) := by decide +kernel
theorem dX5_restore_6 : decode cX5_restore 6 = .ok (.ifCond .ne 6, 3) := by decide +kernel
theorem dX5_restore_9 : decode cX5_restore 9 = .ok (.bipush (-2), 2) := by decide +kernel
theorem dX5_restore_11 : decode cX5_restore 11 = .ok (.ireturn, 1) := by decide +kernel
theorem dX5_restore_12 : decode cX5_restore 12 = .ok (.aload_n 0, 1) := by decide +kernel
theorem dX5_restore_13 : decode cX5_restore 13 = .ok (.getfield 19, 3) := by decide +kernel
theorem dX5_restore_16 : decode cX5_restore 16 = .ok (.iload_n 1, 1) := by decide +kernel
theorem dX5_restore_17 : decode cX5_restore 17 = .ok (.baload, 1) := by decide +kernel
theorem dX5_restore_18 : decode cX5_restore 18 = .ok (.ifCond .ne 6, 3) := by decide +kernel
theorem dX5_restore_21 : decode cX5_restore 21 = .ok (.bipush (-5), 2) := by decide +kernel
theorem dX5_restore_23 : decode cX5_restore 23 = .ok (.ireturn, 1) := by decide +kernel
theorem dX5_restore_24 : decode cX5_restore 24 = .ok (.aload_n 0, 1) := by decide +kernel
theorem dX5_restore_25 : decode cX5_restore 25 = .ok (.invokevirtual 49, 3) := by decide +kernel
theorem dX5_restore_28 : decode cX5_restore 28 = .ok (.aload_n 0, 1) := by decide +kernel
theorem dX5_restore_29 : decode cX5_restore 29 = .ok (.getfield 16, 3) := by decide +kernel
theorem dX5_restore_32 : decode cX5_restore 32 = .ok (.sipush 164, 3) := by decide +kernel
theorem dX5_restore_35 : decode cX5_restore 35 = .ok (.iload_n 1, 1) := by decide +kernel
theorem dX5_restore_36 : decode cX5_restore 36 = .ok (.imul, 1) := by decide +kernel
theorem dX5_restore_37 : decode cX5_restore 37 = .ok (.aload_n 0, 1) := by decide +kernel
theorem dX5_restore_38 : decode cX5_restore 38 = .ok (.getfield 7, 3) := by decide +kernel
theorem dX5_restore_41 : decode cX5_restore 41 = .ok (.iconst 0, 1) := by decide +kernel
theorem dX5_restore_42 : decode cX5_restore 42 = .ok (.invokestatic 45, 3) := by decide +kernel
theorem dX5_restore_45 : decode cX5_restore 45 = .ok (.aload_n 0, 1) := by decide +kernel
theorem dX5_restore_46 : decode cX5_restore 46 = .ok (.getfield 7, 3) := by decide +kernel
theorem dX5_restore_49 : decode cX5_restore 49 = .ok (.iconst 4, 1) := by decide +kernel
theorem dX5_restore_50 : decode cX5_restore 50 = .ok (.iaload, 1) := by decide +kernel
theorem dX5_restore_51 : decode cX5_restore 51 = .ok (.ireturn, 1) := by decide +kernel
set_option maxRecDepth 20000 in
theorem ggX5_isValue_X5_in : GoodIn wsX5_isValue wsX5_in := goodIn_r _ [4] (by decide +kernel) (by decide +kernel)
set_option maxRecDepth 20000 in
theorem gX5_isValue_X5_in : GoodIn wsX5_isValue (va_wsS RX5 33 yX5_in wsX5_in) := goodIn_app (goodIn_of _ (by decide +kernel)) ggX5_isValue_X5_in
theorem dX5_isValue_0 : decode cX5_isValue 0 = .ok (.iload_n 0, 1) := by decide +kernel
theorem dX5_isValue_1 : decode cX5_isValue 1 = .ok (.tableswitch 55 0 3 #[31, 31, 39, 47], 31) := by decide +kernel
theorem dX5_isValue_32 : decode cX5_isValue 32 = .ok (.iload_n 1, 1) := by decide +kernel
theorem dX5_isValue_33 : decode cX5_isValue 33 = .ok (.iconst 0, 1) := by decide +kernel
theorem dX5_isValue_34 : decode cX5_isValue 34 = .ok (.bipush 20, 2) := by decide +kernel
theorem dX5_isValue_36 : decode cX5_isValue 36 = .ok (.invokestatic 33, 3) := by decide +kernel
theorem dX5_isValue_39 : decode cX5_isValue 39 = .ok (.ireturn, 1) := by decide +kernel
theorem dX5_isValue_40 : decode cX5_isValue 40 = .ok (.iload_n 1, 1) := by decide +kernel
theorem dX5_isValue_41 : decode cX5_isValue 41 = .ok (.iconst 1, 1) := by decide +kernel
theorem dX5_isValue_42 : decode cX5_isValue 42 = .ok (.bipush 99, 2) := by decide +kernel
theorem dX5_isValue_44 : decode cX5_isValue 44 = .ok (.invokestatic 33, 3) := by decide +kernel
theorem dX5_isValue_47 : decode cX5_isValue 47 = .ok (.ireturn, 1) := by decide +kernel
theorem dX5_isValue_48 : decode cX5_isValue 48 = .ok (.iload_n 1, 1) := by decide +kernel
theorem dX5_isValue_49 : decode cX5_isValue 49 = .ok (.iconst 1, 1) := by decide +kernel
theorem dX5_isValue_50 : decode cX5_isValue 50 = .ok (.bipush 30, 2) := by decide +kernel
theorem dX5_isValue_52 : decode cX5_isValue 52 = .ok (.invokestatic 33, 3) := by decide +kernel
theorem dX5_isValue_55 : decode cX5_isValue 55 = .ok (.ireturn, 1) := by decide +kernel
theorem dX5_isValue_56 : decode cX5_isValue 56 = .ok (.iconst 0, 1) := by decide +kernel
theorem dX5_isValue_57 : decode cX5_isValue 57 = .ok (.ireturn, 1) := by decide +kernel
set_option maxRecDepth 20000 in
theorem ggX5_set_X5_isValue : GoodIn wsX5_set wsX5_isValue := goodIn_r _ [5, 6, 7, 4, 8] (by decide +kernel) (by decide +kernel)
set_option maxRecDepth 20000 in
theorem gX5_set_X5_isValue : GoodIn wsX5_set (va_wsS RX5 52 yX5_isValue wsX5_isValue) := goodIn_app (goodIn_of _ (by decide +kernel)) ggX5_set_X5_isValue
set_option maxRecDepth 20000 in
theorem ggX5_set_X5_record : GoodIn wsX5_set wsX5_record := goodIn_r _ [12, 13, 14, 1, 15, 16, 4, 17, 18, 19, 20, 21, 22, 23, 24, 25, 26, 27] (by decide +kernel) (by decide +kernel)
set_option maxRecDepth 20000 in
theorem gX5_set_X5_record : GoodIn wsX5_set (wsV RX5 49 RX5 yX5_record wsX5_record) := goodIn_app (goodIn_of _ (by decide +kernel)) ggX5_set_X5_record
theorem dX5_set_0 : decode cX5_set 0 = .ok (.iload_n 1, 1) := by decide +kernel
theorem dX5_set_1 : decode cX5_set 1 = .ok (.iload_n 2, 1) := by decide +kernel
theorem dX5_set_2 : decode cX5_set 2 = .ok (.invokestatic 52, 3) := by decide +kernel
theorem dX5_set_5 : decode cX5_set 5 = .ok (.ifCond .ne 6, 3) := by decide +kernel
theorem dX5_set_8 : decode cX5_set 8 = .ok (.bipush (-2), 2) := by decide +kernel
theorem dX5_set_10 : decode cX5_set 10 = .ok (.ireturn, 1) := by decide +kernel
theorem dX5_set_11 : decode cX5_set 11 = .ok (.aload_n 0, 1) := by decide +kernel
theorem dX5_set_12 : decode cX5_set 12 = .ok (.invokevirtual 49, 3) := by decide +kernel
theorem dX5_set_15 : decode cX5_set 15 = .ok (.aload_n 0, 1) := by decide +kernel
theorem dX5_set_16 : decode cX5_set 16 = .ok (.getfield 7, 3) := by decide +kernel
theorem dX5_set_19 : decode cX5_set 19 = .ok (.iload_n 1, 1) := by decide +kernel
theorem dX5_set_20 : decode cX5_set 20 = .ok (.iaload, 1) := by decide +kernel
theorem dX5_set_21 : decode cX5_set 21 = .ok (.istore_n 3, 1) := by decide +kernel
theorem dX5_set_22 : decode cX5_set 22 = .ok (.aload_n 0, 1) := by decide +kernel
theorem dX5_set_23 : decode cX5_set 23 = .ok (.getfield 7, 3) := by decide +kernel
theorem dX5_set_26 : decode cX5_set 26 = .ok (.iload_n 1, 1) := by decide +kernel
theorem dX5_set_27 : decode cX5_set 27 = .ok (.iload_n 2, 1) := by decide +kernel
theorem dX5_set_28 : decode cX5_set 28 = .ok (.iastore, 1) := by decide +kernel
theorem dX5_set_29 : decode cX5_set 29 = .ok (.iload_n 3, 1) := by decide +kernel
theorem dX5_set_30 : decode cX5_set 30 = .ok (.ireturn, 1) := by decide +kernel
set_option maxRecDepth 20000 in
theorem ggX5_drainAbove_X5_of : GoodIn wsX5_drainAbove wsX5_of := goodIn_r _ [6, 1, 11, 12, 13, 14, 15, 16, 17, 18, 19, 20] (by decide +kernel) (by decide +kernel)
set_option maxRecDepth 20000 in
theorem gX5_drainAbove_X5_of : GoodIn wsX5_drainAbove (wsV RX5 37 RX5 yX5_of wsX5_of) := goodIn_app (goodIn_of _ (by decide +kernel)) ggX5_drainAbove_X5_of
set_option maxRecDepth 20000 in
theorem ggX5_drainAbove_X5_lay : GoodIn wsX5_drainAbove wsX5_lay := goodIn_r _ [10, 1, 11, 12, 13, 14, 15, 16, 17, 18, 19, 20] (by decide +kernel) (by decide +kernel)
set_option maxRecDepth 20000 in
theorem gX5_drainAbove_X5_lay : GoodIn wsX5_drainAbove (wsV RX5 29 RX5 yX5_lay wsX5_lay) := goodIn_app (goodIn_of _ (by decide +kernel)) ggX5_drainAbove_X5_lay
theorem dX5_drainAbove_0 : decode cX5_drainAbove 0 = .ok (.aload_n 0, 1) := by decide +kernel
theorem dX5_drainAbove_1 : decode cX5_drainAbove 1 = .ok (.iload_n 1, 1) := by decide +kernel
theorem dX5_drainAbove_2 : decode cX5_drainAbove 2 = .ok (.iconst 1, 1) := by decide +kernel
theorem dX5_drainAbove_3 : decode cX5_drainAbove 3 = .ok (.invokevirtual 37, 3) := by decide +kernel
theorem dX5_drainAbove_6 : decode cX5_drainAbove 6 = .ok (.iload_n 2, 1) := by decide +kernel
theorem dX5_drainAbove_7 : decode cX5_drainAbove 7 = .ok (.isub, 1) := by decide +kernel
theorem dX5_drainAbove_8 : decode cX5_drainAbove 8 = .ok (.istore_n 3, 1) := by decide +kernel
theorem dX5_drainAbove_9 : decode cX5_drainAbove 9 = .ok (.iload_n 3, 1) := by decide +kernel
theorem dX5_drainAbove_10 : decode cX5_drainAbove 10 = .ok (.ifCond .le 21, 3) := by decide +kernel
theorem dX5_drainAbove_13 : decode cX5_drainAbove 13 = .ok (.aload_n 0, 1) := by decide +kernel
theorem dX5_drainAbove_14 : decode cX5_drainAbove 14 = .ok (.iload_n 1, 1) := by decide +kernel
theorem dX5_drainAbove_15 : decode cX5_drainAbove 15 = .ok (.iconst 1, 1) := by decide +kernel
theorem dX5_drainAbove_16 : decode cX5_drainAbove 16 = .ok (.iload_n 2, 1) := by decide +kernel
theorem dX5_drainAbove_17 : decode cX5_drainAbove 17 = .ok (.invokevirtual 29, 3) := by decide +kernel
theorem dX5_drainAbove_20 : decode cX5_drainAbove 20 = .ok (.aload_n 0, 1) := by decide +kernel
theorem dX5_drainAbove_21 : decode cX5_drainAbove 21 = .ok (.getfield 7, 3) := by decide +kernel
theorem dX5_drainAbove_24 : decode cX5_drainAbove 24 = .ok (.bipush 7, 2) := by decide +kernel
theorem dX5_drainAbove_26 : decode cX5_drainAbove 26 = .ok (.dup2, 1) := by decide +kernel
theorem dX5_drainAbove_27 : decode cX5_drainAbove 27 = .ok (.iaload, 1) := by decide +kernel
theorem dX5_drainAbove_28 : decode cX5_drainAbove 28 = .ok (.iload_n 3, 1) := by decide +kernel
theorem dX5_drainAbove_29 : decode cX5_drainAbove 29 = .ok (.iadd, 1) := by decide +kernel
theorem dX5_drainAbove_30 : decode cX5_drainAbove 30 = .ok (.iastore, 1) := by decide +kernel
theorem dX5_drainAbove_31 : decode cX5_drainAbove 31 = .ok (.return_, 1) := by decide +kernel
set_option maxRecDepth 20000 in
theorem ggX5_brim_X5_isPuddle : GoodIn wsX5_brim wsX5_isPuddle := goodIn_r _ [4, 5, 6, 3, 7] (by decide +kernel) (by decide +kernel)
set_option maxRecDepth 20000 in
theorem gX5_brim_X5_isPuddle : GoodIn wsX5_brim (va_wsS RX5 56 yX5_isPuddle wsX5_isPuddle) := goodIn_app (goodIn_of _ (by decide +kernel)) ggX5_brim_X5_isPuddle
set_option maxRecDepth 20000 in
theorem ggX5_brim_X5_in : GoodIn wsX5_brim wsX5_in := goodIn_r _ [7] (by decide +kernel) (by decide +kernel)
set_option maxRecDepth 20000 in
theorem gX5_brim_X5_in : GoodIn wsX5_brim (va_wsS RX5 33 yX5_in wsX5_in) := goodIn_app (goodIn_of _ (by decide +kernel)) ggX5_brim_X5_in
set_option maxRecDepth 20000 in
theorem ggX5_brim_X5_record : GoodIn wsX5_brim wsX5_record := goodIn_r _ [11, 12, 13, 14, 15, 16, 3, 17, 30, 31, 32, 33, 34, 35, 36, 37, 38, 39] (by decide +kernel) (by decide +kernel)
set_option maxRecDepth 20000 in
theorem gX5_brim_X5_record : GoodIn wsX5_brim (wsV RX5 49 RX5 yX5_record wsX5_record) := goodIn_app (goodIn_of _ (by decide +kernel)) ggX5_brim_X5_record
set_option maxRecDepth 20000 in
theorem ggX5_brim_X5_of : GoodIn wsX5_brim wsX5_of := goodIn_r _ [21, 14, 30, 31, 32, 33, 34, 35, 36, 37, 38, 39] (by decide +kernel) (by decide +kernel)
set_option maxRecDepth 20000 in
theorem gX5_brim_X5_of : GoodIn wsX5_brim (wsV RX5 37 RX5 yX5_of wsX5_of) := goodIn_app (goodIn_of _ (by decide +kernel)) ggX5_brim_X5_of
set_option maxRecDepth 20000 in
theorem ggX5_brim_X5_lay : GoodIn wsX5_brim wsX5_lay := goodIn_r _ [25, 14, 30, 31, 32, 33, 34, 35, 36, 37, 38, 39] (by decide +kernel) (by decide +kernel)
set_option maxRecDepth 20000 in
theorem gX5_brim_X5_lay : GoodIn wsX5_brim (wsV RX5 29 RX5 yX5_lay wsX5_lay) := goodIn_app (goodIn_of _ (by decide +kernel)) ggX5_brim_X5_lay
set_option maxRecDepth 20000 in
theorem ggX5_brim_X5_drainAbove : GoodIn wsX5_brim wsX5_drainAbove := goodIn_r _ [29, 14, 18, 19, 20, 3, 21, 22, 23, 24, 25, 30, 31, 32, 33, 34, 35, 36, 37, 38, 39] (by decide +kernel) (by decide +kernel)
set_option maxRecDepth 20000 in
theorem gX5_brim_X5_drainAbove : GoodIn wsX5_brim (wsV RX5 60 RX5 yX5_drainAbove wsX5_drainAbove) := goodIn_app (goodIn_of _ (by decide +kernel)) ggX5_brim_X5_drainAbove
theorem dX5_brim_0 : decode cX5_brim 0 = .ok (.iload_n 1, 1) := by decide +kernel
theorem dX5_brim_1 : decode cX5_brim 1 = .ok (.invokestatic 56, 3) := by decide +kernel
theorem dX5_brim_4 : decode cX5_brim 4 = .ok (.ifCond .ne 5, 3) := by decide +kernel
theorem dX5_brim_7 : decode cX5_brim 7 = .ok (.iconst (-1), 1) := by decide +kernel
theorem dX5_brim_8 : decode cX5_brim 8 = .ok (.ireturn, 1) := by decide +kernel
theorem dX5_brim_9 : decode cX5_brim 9 = .ok (.iload_n 2, 1) := by decide +kernel
theorem dX5_brim_10 : decode cX5_brim 10 = .ok (.iconst 1, 1) := by decide +kernel
theorem dX5_brim_11 : decode cX5_brim 11 = .ok (.bipush 60, 2) := by decide +kernel
theorem dX5_brim_13 : decode cX5_brim 13 = .ok (.invokestatic 33, 3) := by decide +kernel
theorem dX5_brim_16 : decode cX5_brim 16 = .ok (.ifCond .ne 6, 3) := by decide +kernel
theorem dX5_brim_19 : decode cX5_brim 19 = .ok (.bipush (-2), 2) := by decide +kernel
theorem dX5_brim_21 : decode cX5_brim 21 = .ok (.ireturn, 1) := by decide +kernel
theorem dX5_brim_22 : decode cX5_brim 22 = .ok (.aload_n 0, 1) := by decide +kernel
theorem dX5_brim_23 : decode cX5_brim 23 = .ok (.invokevirtual 49, 3) := by decide +kernel
theorem dX5_brim_26 : decode cX5_brim 26 = .ok (.aload_n 0, 1) := by decide +kernel
theorem dX5_brim_27 : decode cX5_brim 27 = .ok (.iload_n 1, 1) := by decide +kernel
theorem dX5_brim_28 : decode cX5_brim 28 = .ok (.iconst 0, 1) := by decide +kernel
theorem dX5_brim_29 : decode cX5_brim 29 = .ok (.invokevirtual 37, 3) := by decide +kernel
theorem dX5_brim_32 : decode cX5_brim 32 = .ok (.istore_n 3, 1) := by decide +kernel
theorem dX5_brim_33 : decode cX5_brim 33 = .ok (.aload_n 0, 1) := by decide +kernel
theorem dX5_brim_34 : decode cX5_brim 34 = .ok (.iload_n 1, 1) := by decide +kernel
theorem dX5_brim_35 : decode cX5_brim 35 = .ok (.iconst 0, 1) := by decide +kernel
theorem dX5_brim_36 : decode cX5_brim 36 = .ok (.iload_n 2, 1) := by decide +kernel
theorem dX5_brim_37 : decode cX5_brim 37 = .ok (.invokevirtual 29, 3) := by decide +kernel
theorem dX5_brim_40 : decode cX5_brim 40 = .ok (.aload_n 0, 1) := by decide +kernel
theorem dX5_brim_41 : decode cX5_brim 41 = .ok (.iload_n 1, 1) := by decide +kernel
theorem dX5_brim_42 : decode cX5_brim 42 = .ok (.iload_n 2, 1) := by decide +kernel
theorem dX5_brim_43 : decode cX5_brim 43 = .ok (.invokevirtual 60, 3) := by decide +kernel
theorem dX5_brim_46 : decode cX5_brim 46 = .ok (.iload_n 3, 1) := by decide +kernel
theorem dX5_brim_47 : decode cX5_brim 47 = .ok (.ireturn, 1) := by decide +kernel
set_option maxRecDepth 20000 in
theorem ggX5_hasDucks_X5_of : GoodIn wsX5_hasDucks wsX5_of := goodIn_r _ [5, 6, 7, 8, 9, 10, 11, 12, 13, 14, 15, 16] (by decide +kernel) (by decide +kernel)
set_option maxRecDepth 20000 in
theorem gX5_hasDucks_X5_of : GoodIn wsX5_hasDucks (wsV RX5 37 RX5 yX5_of wsX5_of) := goodIn_app (goodIn_of _ (by decide +kernel)) ggX5_hasDucks_X5_of
theorem dX5_hasDucks_0 : decode cX5_hasDucks 0 = .ok (.aload_n 0, 1) := by decide +kernel
theorem dX5_hasDucks_1 : decode cX5_hasDucks 1 = .ok (.iload_n 1, 1) := by decide +kernel
theorem dX5_hasDucks_2 : decode cX5_hasDucks 2 = .ok (.iconst 3, 1) := by decide +kernel
theorem dX5_hasDucks_3 : decode cX5_hasDucks 3 = .ok (.invokevirtual 37, 3) := by decide +kernel
theorem dX5_hasDucks_6 : decode cX5_hasDucks 6 = .ok (.iconst 1, 1) := by decide +kernel
theorem dX5_hasDucks_7 : decode cX5_hasDucks 7 = .ok (.if_icmp .ne 7, 3) := by decide +kernel
theorem dX5_hasDucks_10 : decode cX5_hasDucks 10 = .ok (.iconst 1, 1) := by decide +kernel
theorem dX5_hasDucks_11 : decode cX5_hasDucks 11 = .ok (.goto 4, 3) := by decide +kernel
theorem dX5_hasDucks_14 : decode cX5_hasDucks 14 = .ok (.iconst 0, 1) := by decide +kernel
theorem dX5_hasDucks_15 : decode cX5_hasDucks 15 = .ok (.ireturn, 1) := by decide +kernel
set_option maxRecDepth 20000 in
theorem ggX5_drain_X5_isPuddle : GoodIn wsX5_drain wsX5_isPuddle := goodIn_r _ [4, 5, 6, 3, 7] (by decide +kernel) (by decide +kernel)
set_option maxRecDepth 20000 in
theorem gX5_drain_X5_isPuddle : GoodIn wsX5_drain (va_wsS RX5 56 yX5_isPuddle wsX5_isPuddle) := goodIn_app (goodIn_of _ (by decide +kernel)) ggX5_drain_X5_isPuddle
set_option maxRecDepth 20000 in
theorem ggX5_drain_X5_hasDucks : GoodIn wsX5_drain wsX5_hasDucks := goodIn_r _ [11, 12, 13, 14, 3, 15, 16, 34, 35, 36, 37, 38, 39, 40, 41, 42, 43] (by decide +kernel) (by decide +kernel)
set_option maxRecDepth 20000 in
theorem gX5_drain_X5_hasDucks : GoodIn wsX5_drain (wsV RX5 64 RX5 yX5_hasDucks wsX5_hasDucks) := goodIn_app (goodIn_of _ (by decide +kernel)) ggX5_drain_X5_hasDucks
set_option maxRecDepth 20000 in
theorem ggX5_drain_X5_record : GoodIn wsX5_drain wsX5_record := goodIn_r _ [20, 21, 22, 16, 23, 24, 3, 25, 34, 35, 36, 37, 38, 39, 40, 41, 42, 43] (by decide +kernel) (by decide +kernel)
set_option maxRecDepth 20000 in
theorem gX5_drain_X5_record : GoodIn wsX5_drain (wsV RX5 49 RX5 yX5_record wsX5_record) := goodIn_app (goodIn_of _ (by decide +kernel)) ggX5_drain_X5_record
set_option maxRecDepth 20000 in
theorem ggX5_drain_X5_of : GoodIn wsX5_drain wsX5_of := goodIn_r _ [15, 16, 34, 35, 36, 37, 38, 39, 40, 41, 42, 43] (by decide +kernel) (by decide +kernel)
set_option maxRecDepth 20000 in
theorem gX5_drain_X5_of : GoodIn wsX5_drain (wsV RX5 37 RX5 yX5_of wsX5_of) := goodIn_app (goodIn_of _ (by decide +kernel)) ggX5_drain_X5_of
set_option maxRecDepth 20000 in
theorem ggX5_drain_X5_drainAbove : GoodIn wsX5_drain wsX5_drainAbove := goodIn_r _ [29, 16, 12, 13, 14, 3, 15, 30, 31, 32, 33, 34, 35, 36, 37, 38, 39, 40, 41, 42, 43] (by decide +kernel) (by decide +kernel)
set_option maxRecDepth 20000 in
theorem gX5_drain_X5_drainAbove : GoodIn wsX5_drain (wsV RX5 60 RX5 yX5_drainAbove wsX5_drainAbove) := goodIn_app (goodIn_of _ (by decide +kernel)) ggX5_drain_X5_drainAbove
set_option maxRecDepth 20000 in
theorem ggX5_drain_X5_lay : GoodIn wsX5_drain wsX5_lay := goodIn_r _ [33, 16, 34, 35, 36, 37, 38, 39, 40, 41, 42, 43] (by decide +kernel) (by decide +kernel)
set_option maxRecDepth 20000 in
theorem gX5_drain_X5_lay : GoodIn wsX5_drain (wsV RX5 29 RX5 yX5_lay wsX5_lay) := goodIn_app (goodIn_of _ (by decide +kernel)) ggX5_drain_X5_lay
theorem dX5_drain_0 : decode cX5_drain 0 = .ok (.iload_n 1, 1) := by decide +kernel
theorem dX5_drain_1 : decode cX5_drain 1 = .ok (.invokestatic 56, 3) := by decide +kernel
theorem dX5_drain_4 : decode cX5_drain 4 = .ok (.ifCond .ne 5, 3) := by decide +kernel
theorem dX5_drain_7 : decode cX5_drain 7 = .ok (.iconst (-1), 1) := by decide +kernel
theorem dX5_drain_8 : decode cX5_drain 8 = .ok (.ireturn, 1) := by decide +kernel
theorem dX5_drain_9 : decode cX5_drain 9 = .ok (.aload_n 0, 1) := by decide +kernel
theorem dX5_drain_10 : decode cX5_drain 10 = .ok (.iload_n 1, 1) := by decide +kernel
theorem dX5_drain_11 : decode cX5_drain 11 = .ok (.invokevirtual 64, 3) := by decide +kernel
theorem dX5_drain_14 : decode cX5_drain 14 = .ok (.ifCond .eq 6, 3) := by decide +kernel
theorem dX5_drain_17 : decode cX5_drain 17 = .ok (.bipush (-5), 2) := by decide +kernel
theorem dX5_drain_19 : decode cX5_drain 19 = .ok (.ireturn, 1) := by decide +kernel
theorem dX5_drain_20 : decode cX5_drain 20 = .ok (.aload_n 0, 1) := by decide +kernel
theorem dX5_drain_21 : decode cX5_drain 21 = .ok (.invokevirtual 49, 3) := by decide +kernel
theorem dX5_drain_24 : decode cX5_drain 24 = .ok (.aload_n 0, 1) := by decide +kernel
theorem dX5_drain_25 : decode cX5_drain 25 = .ok (.iload_n 1, 1) := by decide +kernel
theorem dX5_drain_26 : decode cX5_drain 26 = .ok (.iconst 1, 1) := by decide +kernel
theorem dX5_drain_27 : decode cX5_drain 27 = .ok (.invokevirtual 37, 3) := by decide +kernel
theorem dX5_drain_30 : decode cX5_drain 30 = .ok (.istore_n 2, 1) := by decide +kernel
theorem dX5_drain_31 : decode cX5_drain 31 = .ok (.aload_n 0, 1) := by decide +kernel
theorem dX5_drain_32 : decode cX5_drain 32 = .ok (.iload_n 1, 1) := by decide +kernel
theorem dX5_drain_33 : decode cX5_drain 33 = .ok (.iconst 0, 1) := by decide +kernel
theorem dX5_drain_34 : decode cX5_drain 34 = .ok (.invokevirtual 60, 3) := by decide +kernel
theorem dX5_drain_37 : decode cX5_drain 37 = .ok (.aload_n 0, 1) := by decide +kernel
theorem dX5_drain_38 : decode cX5_drain 38 = .ok (.iload_n 1, 1) := by decide +kernel
theorem dX5_drain_39 : decode cX5_drain 39 = .ok (.iconst 2, 1) := by decide +kernel
theorem dX5_drain_40 : decode cX5_drain 40 = .ok (.iconst 0, 1) := by decide +kernel
theorem dX5_drain_41 : decode cX5_drain 41 = .ok (.invokevirtual 29, 3) := by decide +kernel
theorem dX5_drain_44 : decode cX5_drain 44 = .ok (.iload_n 2, 1) := by decide +kernel
theorem dX5_drain_45 : decode cX5_drain 45 = .ok (.ireturn, 1) := by decide +kernel
set_option maxRecDepth 20000 in
theorem ggX5_shoes_X5_isWalker : GoodIn wsX5_shoes wsX5_isWalker := goodIn_r _ [4, 5, 6, 3, 7] (by decide +kernel) (by decide +kernel)
set_option maxRecDepth 20000 in
theorem gX5_shoes_X5_isWalker : GoodIn wsX5_shoes (va_wsS RX5 67 yX5_isWalker wsX5_isWalker) := goodIn_app (goodIn_of _ (by decide +kernel)) ggX5_shoes_X5_isWalker
set_option maxRecDepth 20000 in
theorem ggX5_shoes_X5_in : GoodIn wsX5_shoes wsX5_in := goodIn_r _ [7] (by decide +kernel) (by decide +kernel)
set_option maxRecDepth 20000 in
theorem gX5_shoes_X5_in : GoodIn wsX5_shoes (va_wsS RX5 33 yX5_in wsX5_in) := goodIn_app (goodIn_of _ (by decide +kernel)) ggX5_shoes_X5_in
set_option maxRecDepth 20000 in
theorem ggX5_shoes_X5_record : GoodIn wsX5_shoes wsX5_record := goodIn_r _ [11, 12, 13, 14, 15, 16, 3, 17, 26, 27, 28, 29, 30, 31, 32, 33, 34, 35] (by decide +kernel) (by decide +kernel)
set_option maxRecDepth 20000 in
theorem gX5_shoes_X5_record : GoodIn wsX5_shoes (wsV RX5 49 RX5 yX5_record wsX5_record) := goodIn_app (goodIn_of _ (by decide +kernel)) ggX5_shoes_X5_record
set_option maxRecDepth 20000 in
theorem ggX5_shoes_X5_ofWalker : GoodIn wsX5_shoes wsX5_ofWalker := goodIn_r _ [21, 14, 26, 27, 28, 29, 30, 31, 32, 33, 34, 35] (by decide +kernel) (by decide +kernel)
set_option maxRecDepth 20000 in
theorem gX5_shoes_X5_ofWalker : GoodIn wsX5_shoes (wsV RX5 70 RX5 yX5_ofWalker wsX5_ofWalker) := goodIn_app (goodIn_of _ (by decide +kernel)) ggX5_shoes_X5_ofWalker
set_option maxRecDepth 20000 in
theorem ggX5_shoes_X5_layWalker : GoodIn wsX5_shoes wsX5_layWalker := goodIn_r _ [25, 14, 26, 27, 28, 29, 30, 31, 32, 33, 34, 35] (by decide +kernel) (by decide +kernel)
set_option maxRecDepth 20000 in
theorem gX5_shoes_X5_layWalker : GoodIn wsX5_shoes (wsV RX5 73 RX5 yX5_layWalker wsX5_layWalker) := goodIn_app (goodIn_of _ (by decide +kernel)) ggX5_shoes_X5_layWalker
theorem dX5_shoes_0 : decode cX5_shoes 0 = .ok (.iload_n 1, 1) := by decide +kernel
theorem dX5_shoes_1 : decode cX5_shoes 1 = .ok (.invokestatic 67, 3) := by decide +kernel
theorem dX5_shoes_4 : decode cX5_shoes 4 = .ok (.ifCond .ne 5, 3) := by decide +kernel
theorem dX5_shoes_7 : decode cX5_shoes 7 = .ok (.iconst (-1), 1) := by decide +kernel
theorem dX5_shoes_8 : decode cX5_shoes 8 = .ok (.ireturn, 1) := by decide +kernel
theorem dX5_shoes_9 : decode cX5_shoes 9 = .ok (.iload_n 2, 1) := by decide +kernel
theorem dX5_shoes_10 : decode cX5_shoes 10 = .ok (.iconst 0, 1) := by decide +kernel
theorem dX5_shoes_11 : decode cX5_shoes 11 = .ok (.iconst 3, 1) := by decide +kernel
theorem dX5_shoes_12 : decode cX5_shoes 12 = .ok (.invokestatic 33, 3) := by decide +kernel
theorem dX5_shoes_15 : decode cX5_shoes 15 = .ok (.ifCond .ne 6, 3) := by decide +kernel
theorem dX5_shoes_18 : decode cX5_shoes 18 = .ok (.bipush (-2), 2) := by decide +kernel
theorem dX5_shoes_20 : decode cX5_shoes 20 = .ok (.ireturn, 1) := by decide +kernel
theorem dX5_shoes_21 : decode cX5_shoes 21 = .ok (.aload_n 0, 1) := by decide +kernel
theorem dX5_shoes_22 : decode cX5_shoes 22 = .ok (.invokevirtual 49, 3) := by decide +kernel
theorem dX5_shoes_25 : decode cX5_shoes 25 = .ok (.aload_n 0, 1) := by decide +kernel
theorem dX5_shoes_26 : decode cX5_shoes 26 = .ok (.iload_n 1, 1) := by decide +kernel
theorem dX5_shoes_27 : decode cX5_shoes 27 = .ok (.iconst 0, 1) := by decide +kernel
theorem dX5_shoes_28 : decode cX5_shoes 28 = .ok (.invokevirtual 70, 3) := by decide +kernel
theorem dX5_shoes_31 : decode cX5_shoes 31 = .ok (.istore_n 3, 1) := by decide +kernel
theorem dX5_shoes_32 : decode cX5_shoes 32 = .ok (.aload_n 0, 1) := by decide +kernel
theorem dX5_shoes_33 : decode cX5_shoes 33 = .ok (.iload_n 1, 1) := by decide +kernel
theorem dX5_shoes_34 : decode cX5_shoes 34 = .ok (.iconst 0, 1) := by decide +kernel
theorem dX5_shoes_35 : decode cX5_shoes 35 = .ok (.iload_n 2, 1) := by decide +kernel
theorem dX5_shoes_36 : decode cX5_shoes 36 = .ok (.invokevirtual 73, 3) := by decide +kernel
theorem dX5_shoes_39 : decode cX5_shoes 39 = .ok (.iload_n 3, 1) := by decide +kernel
theorem dX5_shoes_40 : decode cX5_shoes 40 = .ok (.ireturn, 1) := by decide +kernel
theorem dX5_size_0 : decode cX5_size 0 = .ok (.iconst 0, 1) := by decide +kernel
theorem dX5_size_1 : decode cX5_size 1 = .ok (.istore_n 1, 1) := by decide +kernel
theorem dX5_size_2 : decode cX5_size 2 = .ok (.iconst 0, 1) := by decide +kernel
theorem dX5_size_3 : decode cX5_size 3 = .ok (.istore_n 2, 1) := by decide +kernel
theorem dX5_size_4 : decode cX5_size 4 = .ok (.iload_n 2, 1) := by decide +kernel
theorem dX5_size_5 : decode cX5_size 5 = .ok (.bipush 12, 2) := by decide +kernel
theorem dX5_size_7 : decode cX5_size 7 = .ok (.if_icmp .ge 17, 3) := by decide +kernel
theorem dX5_size_10 : decode cX5_size 10 = .ok (.iload_n 1, 1) := by decide +kernel
theorem dX5_size_11 : decode cX5_size 11 = .ok (.iload_n 0, 1) := by decide +kernel
theorem dX5_size_12 : decode cX5_size 12 = .ok (.iload_n 2, 1) := by decide +kernel
theorem dX5_size_13 : decode cX5_size 13 = .ok (.ishr, 1) := by decide +kernel
theorem dX5_size_14 : decode cX5_size 14 = .ok (.iconst 1, 1) := by decide +kernel
theorem dX5_size_15 : decode cX5_size 15 = .ok (.iand, 1) := by decide +kernel
theorem dX5_size_16 : decode cX5_size 16 = .ok (.iadd, 1) := by decide +kernel
theorem dX5_size_17 : decode cX5_size 17 = .ok (.istore_n 1, 1) := by decide +kernel
theorem dX5_size_18 : decode cX5_size 18 = .ok (.iinc 2 1, 3) := by decide +kernel
theorem dX5_size_21 : decode cX5_size 21 = .ok (.goto (-17), 3) := by decide +kernel
theorem dX5_size_24 : decode cX5_size 24 = .ok (.iload_n 1, 1) := by decide +kernel
theorem dX5_size_25 : decode cX5_size 25 = .ok (.ireturn, 1) := by decide +kernel
set_option maxRecDepth 20000 in
theorem ggX5_permits_X5_days : GoodIn wsX5_permits wsX5_days := goodIn_r _ [5, 6, 7, 8, 9, 10, 11, 12, 13, 14, 15, 16] (by decide +kernel) (by decide +kernel)
set_option maxRecDepth 20000 in
theorem gX5_permits_X5_days : GoodIn wsX5_permits (wsV RX5 76 RX5 yX5_days wsX5_days) := goodIn_app (goodIn_of _ (by decide +kernel)) ggX5_permits_X5_days
theorem dX5_permits_0 : decode cX5_permits 0 = .ok (.iconst 0, 1) := by decide +kernel
theorem dX5_permits_1 : decode cX5_permits 1 = .ok (.istore_n 2, 1) := by decide +kernel
theorem dX5_permits_2 : decode cX5_permits 2 = .ok (.iconst 0, 1) := by decide +kernel
theorem dX5_permits_3 : decode cX5_permits 3 = .ok (.istore_n 3, 1) := by decide +kernel
theorem dX5_permits_4 : decode cX5_permits 4 = .ok (.iload_n 3, 1) := by decide +kernel
theorem dX5_permits_5 : decode cX5_permits 5 = .ok (.bipush 12, 2) := by decide +kernel
theorem dX5_permits_7 : decode cX5_permits 7 = .ok (.if_icmp .ge 28, 3) := by decide +kernel
theorem dX5_permits_10 : decode cX5_permits 10 = .ok (.iload_n 2, 1) := by decide +kernel
theorem dX5_permits_11 : decode cX5_permits 11 = .ok (.aload_n 0, 1) := by decide +kernel
theorem dX5_permits_12 : decode cX5_permits 12 = .ok (.iload_n 1, 1) := by decide +kernel
theorem dX5_permits_13 : decode cX5_permits 13 = .ok (.iload_n 3, 1) := by decide +kernel
theorem dX5_permits_14 : decode cX5_permits 14 = .ok (.invokevirtual 76, 3) := by decide +kernel
theorem dX5_permits_17 : decode cX5_permits 17 = .ok (.ifCond .le 9, 3) := by decide +kernel
theorem dX5_permits_20 : decode cX5_permits 20 = .ok (.iconst 1, 1) := by decide +kernel
theorem dX5_permits_21 : decode cX5_permits 21 = .ok (.iload_n 3, 1) := by decide +kernel
theorem dX5_permits_22 : decode cX5_permits 22 = .ok (.ishl, 1) := by decide +kernel
theorem dX5_permits_23 : decode cX5_permits 23 = .ok (.goto 4, 3) := by decide +kernel
theorem dX5_permits_26 : decode cX5_permits 26 = .ok (.iconst 0, 1) := by decide +kernel
theorem dX5_permits_27 : decode cX5_permits 27 = .ok (.ior, 1) := by decide +kernel
theorem dX5_permits_28 : decode cX5_permits 28 = .ok (.istore_n 2, 1) := by decide +kernel
theorem dX5_permits_29 : decode cX5_permits 29 = .ok (.iinc 3 1, 3) := by decide +kernel
theorem dX5_permits_32 : decode cX5_permits 32 = .ok (.goto (-28), 3) := by decide +kernel
theorem dX5_permits_35 : decode cX5_permits 35 = .ok (.iload_n 2, 1) := by decide +kernel
theorem dX5_permits_36 : decode cX5_permits 36 = .ok (.ireturn, 1) := by decide +kernel
set_option maxRecDepth 20000 in
theorem ggX5_permit_X5_isWalker : GoodIn wsX5_permit wsX5_isWalker := goodIn_r _ [5, 6, 7, 4, 8] (by decide +kernel) (by decide +kernel)
set_option maxRecDepth 20000 in
theorem gX5_permit_X5_isWalker : GoodIn wsX5_permit (va_wsS RX5 67 yX5_isWalker wsX5_isWalker) := goodIn_app (goodIn_of _ (by decide +kernel)) ggX5_permit_X5_isWalker
set_option maxRecDepth 20000 in
theorem ggX5_permit_X5_isPuddle : GoodIn wsX5_permit wsX5_isPuddle := goodIn_r _ [11, 6, 7, 4, 8] (by decide +kernel) (by decide +kernel)
set_option maxRecDepth 20000 in
theorem gX5_permit_X5_isPuddle : GoodIn wsX5_permit (va_wsS RX5 56 yX5_isPuddle wsX5_isPuddle) := goodIn_app (goodIn_of _ (by decide +kernel)) ggX5_permit_X5_isPuddle
set_option maxRecDepth 20000 in
theorem ggX5_permit_X5_hasDucks : GoodIn wsX5_permit wsX5_hasDucks := goodIn_r _ [15, 16, 17, 18, 4, 19, 1, 40, 41, 42, 43, 44, 45, 46, 47, 48, 49] (by decide +kernel) (by decide +kernel)
set_option maxRecDepth 20000 in
theorem gX5_permit_X5_hasDucks : GoodIn wsX5_permit (wsV RX5 64 RX5 yX5_hasDucks wsX5_hasDucks) := goodIn_app (goodIn_of _ (by decide +kernel)) ggX5_permit_X5_hasDucks
set_option maxRecDepth 20000 in
theorem ggX5_permit_X5_record : GoodIn wsX5_permit wsX5_record := goodIn_r _ [23, 24, 25, 1, 26, 27, 4, 28, 40, 41, 42, 43, 44, 45, 46, 47, 48, 49] (by decide +kernel) (by decide +kernel)
set_option maxRecDepth 20000 in
theorem gX5_permit_X5_record : GoodIn wsX5_permit (wsV RX5 49 RX5 yX5_record wsX5_record) := goodIn_app (goodIn_of _ (by decide +kernel)) ggX5_permit_X5_record
set_option maxRecDepth 20000 in
theorem ggX5_permit_X5_permits : GoodIn wsX5_permit wsX5_permits := goodIn_r _ [32, 33, 34, 35, 4, 36, 1, 40, 41, 42, 43, 44, 45, 46, 47, 48, 49] (by decide +kernel) (by decide +kernel)
set_option maxRecDepth 20000 in
theorem gX5_permit_X5_permits : GoodIn wsX5_permit (wsV RX5 79 RX5 yX5_permits wsX5_permits) := goodIn_app (goodIn_of _ (by decide +kernel)) ggX5_permit_X5_permits
set_option maxRecDepth 20000 in
theorem ggX5_permit_X5_size : GoodIn wsX5_permit wsX5_size := goodIn_r _ [39] (by decide +kernel) (by decide +kernel)
set_option maxRecDepth 20000 in
theorem gX5_permit_X5_size : GoodIn wsX5_permit (va_wsS RX5 83 yX5_size wsX5_size) := goodIn_app (goodIn_of _ (by decide +kernel)) ggX5_permit_X5_size
theorem dX5_permit_0 : decode cX5_permit 0 = .ok (.iload_n 1, 1) := by decide +kernel
theorem dX5_permit_1 : decode cX5_permit 1 = .ok (.invokestatic 67, 3) := by decide +kernel
theorem dX5_permit_4 : decode cX5_permit 4 = .ok (.ifCond .eq 10, 3) := by decide +kernel
theorem dX5_permit_7 : decode cX5_permit 7 = .ok (.iload_n 2, 1) := by decide +kernel
theorem dX5_permit_8 : decode cX5_permit 8 = .ok (.invokestatic 56, 3) := by decide +kernel
theorem dX5_permit_11 : decode cX5_permit 11 = .ok (.ifCond .ne 5, 3) := by decide +kernel
theorem dX5_permit_14 : decode cX5_permit 14 = .ok (.iconst (-1), 1) := by decide +kernel
theorem dX5_permit_15 : decode cX5_permit 15 = .ok (.ireturn, 1) := by decide +kernel
theorem dX5_permit_16 : decode cX5_permit 16 = .ok (.aload_n 0, 1) := by decide +kernel
theorem dX5_permit_17 : decode cX5_permit 17 = .ok (.iload_n 2, 1) := by decide +kernel
theorem dX5_permit_18 : decode cX5_permit 18 = .ok (.invokevirtual 64, 3) := by decide +kernel
theorem dX5_permit_21 : decode cX5_permit 21 = .ok (.ifCond .eq 6, 3) := by decide +kernel
theorem dX5_permit_24 : decode cX5_permit 24 = .ok (.bipush (-5), 2) := by decide +kernel
theorem dX5_permit_26 : decode cX5_permit 26 = .ok (.ireturn, 1) := by decide +kernel
theorem dX5_permit_27 : decode cX5_permit 27 = .ok (.aload_n 0, 1) := by decide +kernel
theorem dX5_permit_28 : decode cX5_permit 28 = .ok (.invokevirtual 49, 3) := by decide +kernel
theorem dX5_permit_31 : decode cX5_permit 31 = .ok (.aload_n 0, 1) := by decide +kernel
theorem dX5_permit_32 : decode cX5_permit 32 = .ok (.getfield 7, 3) := by decide +kernel
theorem dX5_permit_35 : decode cX5_permit 35 = .ok (.bipush 92, 2) := by decide +kernel
theorem dX5_permit_37 : decode cX5_permit 37 = .ok (.bipush 12, 2) := by decide +kernel
theorem dX5_permit_39 : decode cX5_permit 39 = .ok (.iload_n 1, 1) := by decide +kernel
theorem dX5_permit_40 : decode cX5_permit 40 = .ok (.imul, 1) := by decide +kernel
theorem dX5_permit_41 : decode cX5_permit 41 = .ok (.iadd, 1) := by decide +kernel
theorem dX5_permit_42 : decode cX5_permit 42 = .ok (.iload_n 2, 1) := by decide +kernel
theorem dX5_permit_43 : decode cX5_permit 43 = .ok (.iadd, 1) := by decide +kernel
theorem dX5_permit_44 : decode cX5_permit 44 = .ok (.aload_n 0, 1) := by decide +kernel
theorem dX5_permit_45 : decode cX5_permit 45 = .ok (.getfield 7, 3) := by decide +kernel
theorem dX5_permit_48 : decode cX5_permit 48 = .ok (.iconst 3, 1) := by decide +kernel
theorem dX5_permit_49 : decode cX5_permit 49 = .ok (.iaload, 1) := by decide +kernel
theorem dX5_permit_50 : decode cX5_permit 50 = .ok (.iastore, 1) := by decide +kernel
theorem dX5_permit_51 : decode cX5_permit 51 = .ok (.aload_n 0, 1) := by decide +kernel
theorem dX5_permit_52 : decode cX5_permit 52 = .ok (.iload_n 1, 1) := by decide +kernel
theorem dX5_permit_53 : decode cX5_permit 53 = .ok (.invokevirtual 79, 3) := by decide +kernel
theorem dX5_permit_56 : decode cX5_permit 56 = .ok (.invokestatic 83, 3) := by decide +kernel
theorem dX5_permit_59 : decode cX5_permit 59 = .ok (.ireturn, 1) := by decide +kernel
set_option maxRecDepth 20000 in
theorem ggX5_reason_X5_hasDucks : GoodIn wsX5_reason wsX5_hasDucks := goodIn_r _ [5, 6, 7, 8, 4, 9, 10, 23, 24, 25, 26, 27, 28, 29, 30, 31, 32] (by decide +kernel) (by decide +kernel)
set_option maxRecDepth 20000 in
theorem gX5_reason_X5_hasDucks : GoodIn wsX5_reason (wsV RX5 64 RX5 yX5_hasDucks wsX5_hasDucks) := goodIn_app (goodIn_of _ (by decide +kernel)) ggX5_reason_X5_hasDucks
set_option maxRecDepth 20000 in
theorem ggX5_reason_X5_days : GoodIn wsX5_reason wsX5_days := goodIn_r _ [14, 10, 23, 24, 25, 26, 27, 28, 29, 30, 31, 32] (by decide +kernel) (by decide +kernel)
set_option maxRecDepth 20000 in
theorem gX5_reason_X5_days : GoodIn wsX5_reason (wsV RX5 76 RX5 yX5_days wsX5_days) := goodIn_app (goodIn_of _ (by decide +kernel)) ggX5_reason_X5_days
set_option maxRecDepth 20000 in
theorem ggX5_reason_X5_isFrozen : GoodIn wsX5_reason wsX5_isFrozen := goodIn_r _ [18, 6, 7, 8, 4, 9, 10, 23, 24, 25, 26, 27, 28, 29, 30, 31, 32] (by decide +kernel) (by decide +kernel)
set_option maxRecDepth 20000 in
theorem gX5_reason_X5_isFrozen : GoodIn wsX5_reason (wsV RX5 86 RX5 yX5_isFrozen wsX5_isFrozen) := goodIn_app (goodIn_of _ (by decide +kernel)) ggX5_reason_X5_isFrozen
set_option maxRecDepth 20000 in
theorem ggX5_reason_X5_depth : GoodIn wsX5_reason wsX5_depth := goodIn_r _ [22, 6, 7, 8, 4, 9, 10, 23, 24, 25, 26, 27, 28, 29, 30, 31, 32] (by decide +kernel) (by decide +kernel)
set_option maxRecDepth 20000 in
theorem gX5_reason_X5_depth : GoodIn wsX5_reason (wsV RX5 89 RX5 yX5_depth wsX5_depth) := goodIn_app (goodIn_of _ (by decide +kernel)) ggX5_reason_X5_depth
theorem dX5_reason_0 : decode cX5_reason 0 = .ok (.aload_n 0, 1) := by decide +kernel
theorem dX5_reason_1 : decode cX5_reason 1 = .ok (.iload_n 2, 1) := by decide +kernel
theorem dX5_reason_2 : decode cX5_reason 2 = .ok (.invokevirtual 64, 3) := by decide +kernel
theorem dX5_reason_5 : decode cX5_reason 5 = .ok (.ifCond .eq 5, 3) := by decide +kernel
theorem dX5_reason_8 : decode cX5_reason 8 = .ok (.iconst 1, 1) := by decide +kernel
theorem dX5_reason_9 : decode cX5_reason 9 = .ok (.ireturn, 1) := by decide +kernel
theorem dX5_reason_10 : decode cX5_reason 10 = .ok (.aload_n 0, 1) := by decide +kernel
theorem dX5_reason_11 : decode cX5_reason 11 = .ok (.iload_n 1, 1) := by decide +kernel
theorem dX5_reason_12 : decode cX5_reason 12 = .ok (.iload_n 2, 1) := by decide +kernel
theorem dX5_reason_13 : decode cX5_reason 13 = .ok (.invokevirtual 76, 3) := by decide +kernel
theorem dX5_reason_16 : decode cX5_reason 16 = .ok (.ifCond .le 5, 3) := by decide +kernel
theorem dX5_reason_19 : decode cX5_reason 19 = .ok (.iconst 0, 1) := by decide +kernel
theorem dX5_reason_20 : decode cX5_reason 20 = .ok (.ireturn, 1) := by decide +kernel
theorem dX5_reason_21 : decode cX5_reason 21 = .ok (.iconst 2, 1) := by decide +kernel
theorem dX5_reason_22 : decode cX5_reason 22 = .ok (.iload_n 3, 1) := by decide +kernel
theorem dX5_reason_23 : decode cX5_reason 23 = .ok (.imul, 1) := by decide +kernel
theorem dX5_reason_24 : decode cX5_reason 24 = .ok (.iconst 1, 1) := by decide +kernel
theorem dX5_reason_25 : decode cX5_reason 25 = .ok (.iadd, 1) := by decide +kernel
theorem dX5_reason_26 : decode cX5_reason 26 = .ok (.istore 4, 2) := by decide +kernel
theorem dX5_reason_28 : decode cX5_reason 28 = .ok (.aload_n 0, 1) := by decide +kernel
theorem dX5_reason_29 : decode cX5_reason 29 = .ok (.iload_n 2, 1) := by decide +kernel
theorem dX5_reason_30 : decode cX5_reason 30 = .ok (.invokevirtual 86, 3) := by decide +kernel
theorem dX5_reason_33 : decode cX5_reason 33 = .ok (.ifCond .eq 19, 3) := by decide +kernel
theorem dX5_reason_36 : decode cX5_reason 36 = .ok (.aload_n 0, 1) := by decide +kernel
theorem dX5_reason_37 : decode cX5_reason 37 = .ok (.iload_n 2, 1) := by decide +kernel
theorem dX5_reason_38 : decode cX5_reason 38 = .ok (.invokevirtual 89, 3) := by decide +kernel
theorem dX5_reason_41 : decode cX5_reason 41 = .ok (.ifCond .le 7, 3) := by decide +kernel
theorem dX5_reason_44 : decode cX5_reason 44 = .ok (.iconst 3, 1) := by decide +kernel
theorem dX5_reason_45 : decode cX5_reason 45 = .ok (.goto 22, 3) := by decide +kernel
theorem dX5_reason_48 : decode cX5_reason 48 = .ok (.iconst 0, 1) := by decide +kernel
theorem dX5_reason_49 : decode cX5_reason 49 = .ok (.goto 18, 3) := by decide +kernel
theorem dX5_reason_52 : decode cX5_reason 52 = .ok (.aload_n 0, 1) := by decide +kernel
theorem dX5_reason_53 : decode cX5_reason 53 = .ok (.iload_n 2, 1) := by decide +kernel
theorem dX5_reason_54 : decode cX5_reason 54 = .ok (.invokevirtual 89, 3) := by decide +kernel
theorem dX5_reason_57 : decode cX5_reason 57 = .ok (.iload 4, 2) := by decide +kernel
theorem dX5_reason_59 : decode cX5_reason 59 = .ok (.if_icmp .le 7, 3) := by decide +kernel
theorem dX5_reason_62 : decode cX5_reason 62 = .ok (.iconst 2, 1) := by decide +kernel
theorem dX5_reason_63 : decode cX5_reason 63 = .ok (.goto 4, 3) := by decide +kernel
theorem dX5_reason_66 : decode cX5_reason 66 = .ok (.iconst 0, 1) := by decide +kernel
theorem dX5_reason_67 : decode cX5_reason 67 = .ok (.ireturn, 1) := by decide +kernel
set_option maxRecDepth 20000 in
theorem ggX5_reasonNow_X5_ofWalker : GoodIn wsX5_reasonNow wsX5_ofWalker := goodIn_r _ [5, 6, 31, 32, 33, 34, 35, 36, 37, 38, 39, 40] (by decide +kernel) (by decide +kernel)
set_option maxRecDepth 20000 in
theorem gX5_reasonNow_X5_ofWalker : GoodIn wsX5_reasonNow (wsV RX5 70 RX5 yX5_ofWalker wsX5_ofWalker) := goodIn_app (goodIn_of _ (by decide +kernel)) ggX5_reasonNow_X5_ofWalker
set_option maxRecDepth 20000 in
theorem ggX5_reasonNow_X5_reason : GoodIn wsX5_reasonNow wsX5_reason := goodIn_r _ [10, 11, 12, 13, 4, 14, 15, 16, 17, 18, 6, 19, 20, 21, 22, 23, 24, 25, 26, 27, 28, 29, 30, 31, 32, 33, 34, 35, 36, 37, 38, 39, 40] (by decide +kernel) (by decide +kernel)
set_option maxRecDepth 20000 in
theorem gX5_reasonNow_X5_reason : GoodIn wsX5_reasonNow (wsV RX5 92 RX5 yX5_reason wsX5_reason) := goodIn_app (goodIn_of _ (by decide +kernel)) ggX5_reasonNow_X5_reason
theorem dX5_reasonNow_0 : decode cX5_reasonNow 0 = .ok (.aload_n 0, 1) := by decide +kernel
theorem dX5_reasonNow_1 : decode cX5_reasonNow 1 = .ok (.iload_n 1, 1) := by decide +kernel
theorem dX5_reasonNow_2 : decode cX5_reasonNow 2 = .ok (.iload_n 2, 1) := by decide +kernel
theorem dX5_reasonNow_3 : decode cX5_reasonNow 3 = .ok (.aload_n 0, 1) := by decide +kernel
theorem dX5_reasonNow_4 : decode cX5_reasonNow 4 = .ok (.iload_n 1, 1) := by decide +kernel
theorem dX5_reasonNow_5 : decode cX5_reasonNow 5 = .ok (.iconst 0, 1) := by decide +kernel
theorem dX5_reasonNow_6 : decode cX5_reasonNow 6 = .ok (.invokevirtual 70, 3) := by decide +kernel
theorem dX5_reasonNow_9 : decode cX5_reasonNow 9 = .ok (.invokevirtual 92, 3) := by decide +kernel
theorem dX5_reasonNow_12 : decode cX5_reasonNow 12 = .ok (.ireturn, 1) := by decide +kernel
set_option maxRecDepth 20000 in
theorem ggX5_duty_X5_isFrozen : GoodIn wsX5_duty wsX5_isFrozen := goodIn_r _ [6, 7, 8, 9, 5, 10, 1, 15, 16, 17, 18, 19, 20, 21, 22, 23, 24] (by decide +kernel) (by decide +kernel)
set_option maxRecDepth 20000 in
theorem gX5_duty_X5_isFrozen : GoodIn wsX5_duty (wsV RX5 86 RX5 yX5_isFrozen wsX5_isFrozen) := goodIn_app (goodIn_of _ (by decide +kernel)) ggX5_duty_X5_isFrozen
set_option maxRecDepth 20000 in
theorem ggX5_duty_X5_depth : GoodIn wsX5_duty wsX5_depth := goodIn_r _ [14, 7, 8, 9, 5, 10, 1, 15, 16, 17, 18, 19, 20, 21, 22, 23, 24] (by decide +kernel) (by decide +kernel)
set_option maxRecDepth 20000 in
theorem gX5_duty_X5_depth : GoodIn wsX5_duty (wsV RX5 89 RX5 yX5_depth wsX5_depth) := goodIn_app (goodIn_of _ (by decide +kernel)) ggX5_duty_X5_depth
theorem dX5_duty_0 : decode cX5_duty 0 = .ok (.aload_n 0, 1) := by decide +kernel
theorem dX5_duty_1 : decode cX5_duty 1 = .ok (.iload_n 1, 1) := by decide +kernel
theorem dX5_duty_2 : decode cX5_duty 2 = .ok (.invokevirtual 86, 3) := by decide +kernel
theorem dX5_duty_5 : decode cX5_duty 5 = .ok (.ifCond .eq 7, 3) := by decide +kernel
theorem dX5_duty_8 : decode cX5_duty 8 = .ok (.iconst 0, 1) := by decide +kernel
theorem dX5_duty_9 : decode cX5_duty 9 = .ok (.goto 15, 3) := by decide +kernel
theorem dX5_duty_12 : decode cX5_duty 12 = .ok (.aload_n 0, 1) := by decide +kernel
theorem dX5_duty_13 : decode cX5_duty 13 = .ok (.getfield 7, 3) := by decide +kernel
theorem dX5_duty_16 : decode cX5_duty 16 = .ok (.iconst 0, 1) := by decide +kernel
theorem dX5_duty_17 : decode cX5_duty 17 = .ok (.iaload, 1) := by decide +kernel
theorem dX5_duty_18 : decode cX5_duty 18 = .ok (.aload_n 0, 1) := by decide +kernel
theorem dX5_duty_19 : decode cX5_duty 19 = .ok (.iload_n 1, 1) := by decide +kernel
theorem dX5_duty_20 : decode cX5_duty 20 = .ok (.invokevirtual 89, 3) := by decide +kernel
theorem dX5_duty_23 : decode cX5_duty 23 = .ok (.imul, 1) := by decide +kernel
theorem dX5_duty_24 : decode cX5_duty 24 = .ok (.ireturn, 1) := by decide +kernel
set_option maxRecDepth 20000 in
theorem ggX5_allowed_X5_reasonNow : GoodIn wsX5_allowed wsX5_reasonNow := goodIn_r _ [5, 6, 7, 8, 4, 9, 10, 11, 12, 13, 14, 15, 16, 17, 18, 19, 20, 21, 22, 23, 24, 25, 26, 27, 28, 29, 30, 31, 32, 33, 34, 35, 36, 37, 38, 39, 40, 41, 42, 43, 44] (by decide +kernel) (by decide +kernel)
set_option maxRecDepth 20000 in
theorem gX5_allowed_X5_reasonNow : GoodIn wsX5_allowed (wsV RX5 96 RX5 yX5_reasonNow wsX5_reasonNow) := goodIn_app (goodIn_of _ (by decide +kernel)) ggX5_allowed_X5_reasonNow
theorem dX5_allowed_0 : decode cX5_allowed 0 = .ok (.iload_n 2, 1) := by decide +kernel
theorem dX5_allowed_1 : decode cX5_allowed 1 = .ok (.iload_n 3, 1) := by decide +kernel
theorem dX5_allowed_2 : decode cX5_allowed 2 = .ok (.if_icmp .gt 7, 3) := by decide +kernel
theorem dX5_allowed_5 : decode cX5_allowed 5 = .ok (.iconst 1, 1) := by decide +kernel
theorem dX5_allowed_6 : decode cX5_allowed 6 = .ok (.goto 4, 3) := by decide +kernel
theorem dX5_allowed_9 : decode cX5_allowed 9 = .ok (.iconst (-1), 1) := by decide +kernel
theorem dX5_allowed_10 : decode cX5_allowed 10 = .ok (.istore 4, 2) := by decide +kernel
theorem dX5_allowed_12 : decode cX5_allowed 12 = .ok (.iload_n 3, 1) := by decide +kernel
theorem dX5_allowed_13 : decode cX5_allowed 13 = .ok (.iload_n 2, 1) := by decide +kernel
theorem dX5_allowed_14 : decode cX5_allowed 14 = .ok (.isub, 1) := by decide +kernel
theorem dX5_allowed_15 : decode cX5_allowed 15 = .ok (.iload 4, 2) := by decide +kernel
theorem dX5_allowed_17 : decode cX5_allowed 17 = .ok (.imul, 1) := by decide +kernel
theorem dX5_allowed_18 : decode cX5_allowed 18 = .ok (.iconst 1, 1) := by decide +kernel
theorem dX5_allowed_19 : decode cX5_allowed 19 = .ok (.iadd, 1) := by decide +kernel
theorem dX5_allowed_20 : decode cX5_allowed 20 = .ok (.istore 5, 2) := by decide +kernel
theorem dX5_allowed_22 : decode cX5_allowed 22 = .ok (.iconst 0, 1) := by decide +kernel
theorem dX5_allowed_23 : decode cX5_allowed 23 = .ok (.istore 6, 2) := by decide +kernel
theorem dX5_allowed_25 : decode cX5_allowed 25 = .ok (.iload 6, 2) := by decide +kernel
theorem dX5_allowed_27 : decode cX5_allowed 27 = .ok (.iload 5, 2) := by decide +kernel
theorem dX5_allowed_29 : decode cX5_allowed 29 = .ok (.if_icmp .ge 24, 3) := by decide +kernel
theorem dX5_allowed_32 : decode cX5_allowed 32 = .ok (.aload_n 0, 1) := by decide +kernel
theorem dX5_allowed_33 : decode cX5_allowed 33 = .ok (.iload_n 1, 1) := by decide +kernel
theorem dX5_allowed_34 : decode cX5_allowed 34 = .ok (.iload_n 2, 1) := by decide +kernel
theorem dX5_allowed_35 : decode cX5_allowed 35 = .ok (.iload 6, 2) := by decide +kernel
theorem dX5_allowed_37 : decode cX5_allowed 37 = .ok (.iload 4, 2) := by decide +kernel
theorem dX5_allowed_39 : decode cX5_allowed 39 = .ok (.imul, 1) := by decide +kernel
theorem dX5_allowed_40 : decode cX5_allowed 40 = .ok (.iadd, 1) := by decide +kernel
theorem dX5_allowed_41 : decode cX5_allowed 41 = .ok (.invokevirtual 96, 3) := by decide +kernel
theorem dX5_allowed_44 : decode cX5_allowed 44 = .ok (.ifCond .ne 9, 3) := by decide +kernel
theorem dX5_allowed_47 : decode cX5_allowed 47 = .ok (.iinc 6 1, 3) := by decide +kernel
theorem dX5_allowed_50 : decode cX5_allowed 50 = .ok (.goto (-25), 3) := by decide +kernel
theorem dX5_allowed_53 : decode cX5_allowed 53 = .ok (.iload 6, 2) := by decide +kernel
theorem dX5_allowed_55 : decode cX5_allowed 55 = .ok (.ireturn, 1) := by decide +kernel
set_option maxRecDepth 20000 in
theorem ggX5_duties_X5_duty : GoodIn wsX5_duties wsX5_duty := goodIn_r _ [5, 6, 7, 8, 9, 4, 10, 11, 12, 13, 14, 15, 16, 17, 18, 19, 20, 21, 22, 23, 24, 25, 26, 27, 28] (by decide +kernel) (by decide +kernel)
set_option maxRecDepth 20000 in
theorem gX5_duties_X5_duty : GoodIn wsX5_duties (wsV RX5 99 RX5 yX5_duty wsX5_duty) := goodIn_app (goodIn_of _ (by decide +kernel)) ggX5_duties_X5_duty
theorem dX5_duties_0 : decode cX5_duties 0 = .ok (.iload_n 1, 1) := by decide +kernel
theorem dX5_duties_1 : decode cX5_duties 1 = .ok (.iload_n 2, 1) := by decide +kernel
theorem dX5_duties_2 : decode cX5_duties 2 = .ok (.if_icmp .gt 7, 3) := by decide +kernel
theorem dX5_duties_5 : decode cX5_duties 5 = .ok (.iconst 1, 1) := by decide +kernel
theorem dX5_duties_6 : decode cX5_duties 6 = .ok (.goto 4, 3) := by decide +kernel
theorem dX5_duties_9 : decode cX5_duties 9 = .ok (.iconst (-1), 1) := by decide +kernel
theorem dX5_duties_10 : decode cX5_duties 10 = .ok (.istore 4, 2) := by decide +kernel
theorem dX5_duties_12 : decode cX5_duties 12 = .ok (.iconst 0, 1) := by decide +kernel
theorem dX5_duties_13 : decode cX5_duties 13 = .ok (.istore 5, 2) := by decide +kernel
theorem dX5_duties_15 : decode cX5_duties 15 = .ok (.iconst 0, 1) := by decide +kernel
theorem dX5_duties_16 : decode cX5_duties 16 = .ok (.istore 6, 2) := by decide +kernel
theorem dX5_duties_18 : decode cX5_duties 18 = .ok (.iload 6, 2) := by decide +kernel
theorem dX5_duties_20 : decode cX5_duties 20 = .ok (.iload_n 3, 1) := by decide +kernel
theorem dX5_duties_21 : decode cX5_duties 21 = .ok (.if_icmp .ge 25, 3) := by decide +kernel
theorem dX5_duties_24 : decode cX5_duties 24 = .ok (.iload 5, 2) := by decide +kernel
theorem dX5_duties_26 : decode cX5_duties 26 = .ok (.aload_n 0, 1) := by decide +kernel
theorem dX5_duties_27 : decode cX5_duties 27 = .ok (.iload_n 1, 1) := by decide +kernel
theorem dX5_duties_28 : decode cX5_duties 28 = .ok (.iload 6, 2) := by decide +kernel
theorem dX5_duties_30 : decode cX5_duties 30 = .ok (.iload 4, 2) := by decide +kernel
theorem dX5_duties_32 : decode cX5_duties 32 = .ok (.imul, 1) := by decide +kernel
theorem dX5_duties_33 : decode cX5_duties 33 = .ok (.iadd, 1) := by decide +kernel
theorem dX5_duties_34 : decode cX5_duties 34 = .ok (.invokevirtual 99, 3) := by decide +kernel
theorem dX5_duties_37 : decode cX5_duties 37 = .ok (.iadd, 1) := by decide +kernel
theorem dX5_duties_38 : decode cX5_duties 38 = .ok (.istore 5, 2) := by decide +kernel
theorem dX5_duties_40 : decode cX5_duties 40 = .ok (.iinc 6 1, 3) := by decide +kernel
theorem dX5_duties_43 : decode cX5_duties 43 = .ok (.goto (-25), 3) := by decide +kernel
theorem dX5_duties_46 : decode cX5_duties 46 = .ok (.iload 5, 2) := by decide +kernel
theorem dX5_duties_48 : decode cX5_duties 48 = .ok (.ireturn, 1) := by decide +kernel
set_option maxRecDepth 20000 in
theorem ggX5_walk_X5_isWalker : GoodIn wsX5_walk wsX5_isWalker := goodIn_r _ [4, 5, 6, 3, 7] (by decide +kernel) (by decide +kernel)
set_option maxRecDepth 20000 in
theorem gX5_walk_X5_isWalker : GoodIn wsX5_walk (va_wsS RX5 67 yX5_isWalker wsX5_isWalker) := goodIn_app (goodIn_of _ (by decide +kernel)) ggX5_walk_X5_isWalker
set_option maxRecDepth 20000 in
theorem ggX5_walk_X5_isPuddle : GoodIn wsX5_walk wsX5_isPuddle := goodIn_r _ [10, 5, 6, 3, 7] (by decide +kernel) (by decide +kernel)
set_option maxRecDepth 20000 in
theorem gX5_walk_X5_isPuddle : GoodIn wsX5_walk (va_wsS RX5 56 yX5_isPuddle wsX5_isPuddle) := goodIn_app (goodIn_of _ (by decide +kernel)) ggX5_walk_X5_isPuddle
set_option maxRecDepth 20000 in
theorem ggX5_walk_X5_record : GoodIn wsX5_walk wsX5_record := goodIn_r _ [14, 15, 16, 17, 18, 19, 3, 20, 73, 74, 75, 76, 77, 78, 79, 80, 81, 82] (by decide +kernel) (by decide +kernel)
set_option maxRecDepth 20000 in
theorem gX5_walk_X5_record : GoodIn wsX5_walk (wsV RX5 49 RX5 yX5_record wsX5_record) := goodIn_app (goodIn_of _ (by decide +kernel)) ggX5_walk_X5_record
set_option maxRecDepth 20000 in
theorem ggX5_walk_X5_allowed : GoodIn wsX5_walk wsX5_allowed := goodIn_r _ [24, 25, 26, 27, 3, 28, 29, 30, 31, 32, 17, 33, 34, 35, 36, 37, 38, 39, 40, 41, 42, 43, 44, 45, 46, 47, 48, 49, 50, 51, 52, 53, 54, 55, 56, 73, 74, 75, 76, 77, 78, 79, 80, 81, 82] (by decide +kernel) (by decide +kernel)
set_option maxRecDepth 20000 in
theorem gX5_walk_X5_allowed : GoodIn wsX5_walk (wsV RX5 102 RX5 yX5_allowed wsX5_allowed) := goodIn_app (goodIn_of _ (by decide +kernel)) ggX5_walk_X5_allowed
set_option maxRecDepth 20000 in
theorem ggX5_walk_X5_ofWalker : GoodIn wsX5_walk wsX5_ofWalker := goodIn_r _ [32, 17, 73, 74, 75, 76, 77, 78, 79, 80, 81, 82] (by decide +kernel) (by decide +kernel)
set_option maxRecDepth 20000 in
theorem gX5_walk_X5_ofWalker : GoodIn wsX5_walk (wsV RX5 70 RX5 yX5_ofWalker wsX5_ofWalker) := goodIn_app (goodIn_of _ (by decide +kernel)) ggX5_walk_X5_ofWalker
set_option maxRecDepth 20000 in
theorem ggX5_walk_X5_duties : GoodIn wsX5_walk wsX5_duties := goodIn_r _ [60, 61, 62, 63, 3, 64, 17, 49, 50, 51, 52, 41, 42, 43, 44, 53, 54, 55, 56, 73, 74, 75, 76, 77, 78, 79, 80, 81, 82] (by decide +kernel) (by decide +kernel)
set_option maxRecDepth 20000 in
theorem gX5_walk_X5_duties : GoodIn wsX5_walk (wsV RX5 105 RX5 yX5_duties wsX5_duties) := goodIn_app (goodIn_of _ (by decide +kernel)) ggX5_walk_X5_duties
set_option maxRecDepth 20000 in
theorem ggX5_walk_X5_layWalker : GoodIn wsX5_walk wsX5_layWalker := goodIn_r _ [68, 17, 73, 74, 75, 76, 77, 78, 79, 80, 81, 82] (by decide +kernel) (by decide +kernel)
set_option maxRecDepth 20000 in
theorem gX5_walk_X5_layWalker : GoodIn wsX5_walk (wsV RX5 73 RX5 yX5_layWalker wsX5_layWalker) := goodIn_app (goodIn_of _ (by decide +kernel)) ggX5_walk_X5_layWalker
set_option maxRecDepth 20000 in
theorem ggX5_walk_X5_of : GoodIn wsX5_walk wsX5_of := goodIn_r _ [44, 17, 73, 74, 75, 76, 77, 78, 79, 80, 81, 82] (by decide +kernel) (by decide +kernel)
set_option maxRecDepth 20000 in
theorem gX5_walk_X5_of : GoodIn wsX5_walk (wsV RX5 37 RX5 yX5_of wsX5_of) := goodIn_app (goodIn_of _ (by decide +kernel)) ggX5_walk_X5_of
set_option maxRecDepth 20000 in
theorem ggX5_walk_X5_lay : GoodIn wsX5_walk wsX5_lay := goodIn_r _ [72, 17, 73, 74, 75, 76, 77, 78, 79, 80, 81, 82] (by decide +kernel) (by decide +kernel)
set_option maxRecDepth 20000 in
theorem gX5_walk_X5_lay : GoodIn wsX5_walk (wsV RX5 29 RX5 yX5_lay wsX5_lay) := goodIn_app (goodIn_of _ (by decide +kernel)) ggX5_walk_X5_lay
theorem dX5_walk_0 : decode cX5_walk 0 = .ok (.iload_n 1, 1) := by decide +kernel
theorem dX5_walk_1 : decode cX5_walk 1 = .ok (.invokestatic 67, 3) := by decide +kernel
theorem dX5_walk_4 : decode cX5_walk 4 = .ok (.ifCond .eq 17, 3) := by decide +kernel
theorem dX5_walk_7 : decode cX5_walk 7 = .ok (.iload_n 2, 1) := by decide +kernel
theorem dX5_walk_8 : decode cX5_walk 8 = .ok (.invokestatic 56, 3) := by decide +kernel
theorem dX5_walk_11 : decode cX5_walk 11 = .ok (.ifCond .eq 10, 3) := by decide +kernel
theorem dX5_walk_14 : decode cX5_walk 14 = .ok (.iload_n 3, 1) := by decide +kernel
theorem dX5_walk_15 : decode cX5_walk 15 = .ok (.invokestatic 56, 3) := by decide +kernel
theorem dX5_walk_18 : decode cX5_walk 18 = .ok (.ifCond .ne 5, 3) := by decide +kernel
theorem dX5_walk_21 : decode cX5_walk 21 = .ok (.iconst (-1), 1) := by decide +kernel
theorem dX5_walk_22 : decode cX5_walk 22 = .ok (.ireturn, 1) := by decide +kernel
theorem dX5_walk_23 : decode cX5_walk 23 = .ok (.aload_n 0, 1) := by decide +kernel
theorem dX5_walk_24 : decode cX5_walk 24 = .ok (.invokevirtual 49, 3) := by decide +kernel
theorem dX5_walk_27 : decode cX5_walk 27 = .ok (.aload_n 0, 1) := by decide +kernel
theorem dX5_walk_28 : decode cX5_walk 28 = .ok (.iload_n 1, 1) := by decide +kernel
theorem dX5_walk_29 : decode cX5_walk 29 = .ok (.iload_n 2, 1) := by decide +kernel
theorem dX5_walk_30 : decode cX5_walk 30 = .ok (.iload_n 3, 1) := by decide +kernel
theorem dX5_walk_31 : decode cX5_walk 31 = .ok (.invokevirtual 102, 3) := by decide +kernel
theorem dX5_walk_34 : decode cX5_walk 34 = .ok (.istore 4, 2) := by decide +kernel
theorem dX5_walk_36 : decode cX5_walk 36 = .ok (.aload_n 0, 1) := by decide +kernel
theorem dX5_walk_37 : decode cX5_walk 37 = .ok (.iload_n 1, 1) := by decide +kernel
theorem dX5_walk_38 : decode cX5_walk 38 = .ok (.iconst 1, 1) := by decide +kernel
theorem dX5_walk_39 : decode cX5_walk 39 = .ok (.aload_n 0, 1) := by decide +kernel
theorem dX5_walk_40 : decode cX5_walk 40 = .ok (.iload_n 1, 1) := by decide +kernel
theorem dX5_walk_41 : decode cX5_walk 41 = .ok (.iconst 1, 1) := by decide +kernel
theorem dX5_walk_42 : decode cX5_walk 42 = .ok (.invokevirtual 70, 3) := by decide +kernel
theorem dX5_walk_45 : decode cX5_walk 45 = .ok (.aload_n 0, 1) := by decide +kernel
theorem dX5_walk_46 : decode cX5_walk 46 = .ok (.iload_n 2, 1) := by decide +kernel
theorem dX5_walk_47 : decode cX5_walk 47 = .ok (.iload_n 3, 1) := by decide +kernel
theorem dX5_walk_48 : decode cX5_walk 48 = .ok (.iload 4, 2) := by decide +kernel
theorem dX5_walk_50 : decode cX5_walk 50 = .ok (.invokevirtual 105, 3) := by decide +kernel
theorem dX5_walk_53 : decode cX5_walk 53 = .ok (.iadd, 1) := by decide +kernel
theorem dX5_walk_54 : decode cX5_walk 54 = .ok (.invokevirtual 73, 3) := by decide +kernel
theorem dX5_walk_57 : decode cX5_walk 57 = .ok (.aload_n 0, 1) := by decide +kernel
theorem dX5_walk_58 : decode cX5_walk 58 = .ok (.iload_n 1, 1) := by decide +kernel
theorem dX5_walk_59 : decode cX5_walk 59 = .ok (.iconst 3, 1) := by decide +kernel
theorem dX5_walk_60 : decode cX5_walk 60 = .ok (.aload_n 0, 1) := by decide +kernel
theorem dX5_walk_61 : decode cX5_walk 61 = .ok (.iload_n 1, 1) := by decide +kernel
theorem dX5_walk_62 : decode cX5_walk 62 = .ok (.iconst 3, 1) := by decide +kernel
theorem dX5_walk_63 : decode cX5_walk 63 = .ok (.invokevirtual 70, 3) := by decide +kernel
theorem dX5_walk_66 : decode cX5_walk 66 = .ok (.iload 4, 2) := by decide +kernel
theorem dX5_walk_68 : decode cX5_walk 68 = .ok (.iadd, 1) := by decide +kernel
theorem dX5_walk_69 : decode cX5_walk 69 = .ok (.invokevirtual 73, 3) := by decide +kernel
theorem dX5_walk_72 : decode cX5_walk 72 = .ok (.iconst 0, 1) := by decide +kernel
theorem dX5_walk_73 : decode cX5_walk 73 = .ok (.istore 5, 2) := by decide +kernel
theorem dX5_walk_75 : decode cX5_walk 75 = .ok (.iload 5, 2) := by decide +kernel
theorem dX5_walk_77 : decode cX5_walk 77 = .ok (.iload 4, 2) := by decide +kernel
theorem dX5_walk_79 : decode cX5_walk 79 = .ok (.if_icmp .ge 43, 3) := by decide +kernel
theorem dX5_walk_82 : decode cX5_walk 82 = .ok (.iload_n 2, 1) := by decide +kernel
theorem dX5_walk_83 : decode cX5_walk 83 = .ok (.iload_n 3, 1) := by decide +kernel
theorem dX5_walk_84 : decode cX5_walk 84 = .ok (.if_icmp .gt 10, 3) := by decide +kernel
theorem dX5_walk_87 : decode cX5_walk 87 = .ok (.iload_n 2, 1) := by decide +kernel
theorem dX5_walk_88 : decode cX5_walk 88 = .ok (.iload 5, 2) := by decide +kernel
theorem dX5_walk_90 : decode cX5_walk 90 = .ok (.iadd, 1) := by decide +kernel
theorem dX5_walk_91 : decode cX5_walk 91 = .ok (.goto 7, 3) := by decide +kernel
theorem dX5_walk_94 : decode cX5_walk 94 = .ok (.iload_n 2, 1) := by decide +kernel
theorem dX5_walk_95 : decode cX5_walk 95 = .ok (.iload 5, 2) := by decide +kernel
theorem dX5_walk_97 : decode cX5_walk 97 = .ok (.isub, 1) := by decide +kernel
theorem dX5_walk_98 : decode cX5_walk 98 = .ok (.istore 6, 2) := by decide +kernel
theorem dX5_walk_100 : decode cX5_walk 100 = .ok (.aload_n 0, 1) := by decide +kernel
theorem dX5_walk_101 : decode cX5_walk 101 = .ok (.iload 6, 2) := by decide +kernel
theorem dX5_walk_103 : decode cX5_walk 103 = .ok (.iconst 4, 1) := by decide +kernel
theorem dX5_walk_104 : decode cX5_walk 104 = .ok (.aload_n 0, 1) := by decide +kernel
theorem dX5_walk_105 : decode cX5_walk 105 = .ok (.iload 6, 2) := by decide +kernel
theorem dX5_walk_107 : decode cX5_walk 107 = .ok (.iconst 4, 1) := by decide +kernel
theorem dX5_walk_108 : decode cX5_walk 108 = .ok (.invokevirtual 37, 3) := by decide +kernel
theorem dX5_walk_111 : decode cX5_walk 111 = .ok (.iconst 1, 1) := by decide +kernel
theorem dX5_walk_112 : decode cX5_walk 112 = .ok (.iadd, 1) := by decide +kernel
theorem dX5_walk_113 : decode cX5_walk 113 = .ok (.invokevirtual 29, 3) := by decide +kernel
theorem dX5_walk_116 : decode cX5_walk 116 = .ok (.iinc 5 1, 3) := by decide +kernel
theorem dX5_walk_119 : decode cX5_walk 119 = .ok (.goto (-44), 3) := by decide +kernel
theorem dX5_walk_122 : decode cX5_walk 122 = .ok (.iload 4, 2) := by decide +kernel
theorem dX5_walk_124 : decode cX5_walk 124 = .ok (.ireturn, 1) := by decide +kernel
set_option maxRecDepth 20000 in
theorem ggX5_pay_X5_isWalker : GoodIn wsX5_pay wsX5_isWalker := goodIn_r _ [4, 5, 6, 3, 7] (by decide +kernel) (by decide +kernel)
set_option maxRecDepth 20000 in
theorem gX5_pay_X5_isWalker : GoodIn wsX5_pay (va_wsS RX5 67 yX5_isWalker wsX5_isWalker) := goodIn_app (goodIn_of _ (by decide +kernel)) ggX5_pay_X5_isWalker
set_option maxRecDepth 20000 in
theorem ggX5_pay_X5_record : GoodIn wsX5_pay wsX5_record := goodIn_r _ [11, 12, 13, 14, 15, 16, 3, 17, 26, 27, 28, 29, 30, 31, 32, 33, 34, 35] (by decide +kernel) (by decide +kernel)
set_option maxRecDepth 20000 in
theorem gX5_pay_X5_record : GoodIn wsX5_pay (wsV RX5 49 RX5 yX5_record wsX5_record) := goodIn_app (goodIn_of _ (by decide +kernel)) ggX5_pay_X5_record
set_option maxRecDepth 20000 in
theorem ggX5_pay_X5_ofWalker : GoodIn wsX5_pay wsX5_ofWalker := goodIn_r _ [21, 14, 26, 27, 28, 29, 30, 31, 32, 33, 34, 35] (by decide +kernel) (by decide +kernel)
set_option maxRecDepth 20000 in
theorem gX5_pay_X5_ofWalker : GoodIn wsX5_pay (wsV RX5 70 RX5 yX5_ofWalker wsX5_ofWalker) := goodIn_app (goodIn_of _ (by decide +kernel)) ggX5_pay_X5_ofWalker
set_option maxRecDepth 20000 in
theorem ggX5_pay_X5_layWalker : GoodIn wsX5_pay wsX5_layWalker := goodIn_r _ [25, 14, 26, 27, 28, 29, 30, 31, 32, 33, 34, 35] (by decide +kernel) (by decide +kernel)
set_option maxRecDepth 20000 in
theorem gX5_pay_X5_layWalker : GoodIn wsX5_pay (wsV RX5 73 RX5 yX5_layWalker wsX5_layWalker) := goodIn_app (goodIn_of _ (by decide +kernel)) ggX5_pay_X5_layWalker
theorem dX5_pay_0 : decode cX5_pay 0 = .ok (.iload_n 1, 1) := by decide +kernel
theorem dX5_pay_1 : decode cX5_pay 1 = .ok (.invokestatic 67, 3) := by decide +kernel
theorem dX5_pay_4 : decode cX5_pay 4 = .ok (.ifCond .ne 5, 3) := by decide +kernel
theorem dX5_pay_7 : decode cX5_pay 7 = .ok (.iconst (-1), 1) := by decide +kernel
theorem dX5_pay_8 : decode cX5_pay 8 = .ok (.ireturn, 1) := by decide +kernel
theorem dX5_pay_9 : decode cX5_pay 9 = .ok (.aload_n 0, 1) := by decide +kernel
theorem dX5_pay_10 : decode cX5_pay 10 = .ok (.invokevirtual 49, 3) := by decide +kernel
theorem dX5_pay_13 : decode cX5_pay 13 = .ok (.aload_n 0, 1) := by decide +kernel
theorem dX5_pay_14 : decode cX5_pay 14 = .ok (.iload_n 1, 1) := by decide +kernel
theorem dX5_pay_15 : decode cX5_pay 15 = .ok (.iconst 1, 1) := by decide +kernel
theorem dX5_pay_16 : decode cX5_pay 16 = .ok (.invokevirtual 70, 3) := by decide +kernel
theorem dX5_pay_19 : decode cX5_pay 19 = .ok (.istore_n 2, 1) := by decide +kernel
theorem dX5_pay_20 : decode cX5_pay 20 = .ok (.aload_n 0, 1) := by decide +kernel
theorem dX5_pay_21 : decode cX5_pay 21 = .ok (.iload_n 1, 1) := by decide +kernel
theorem dX5_pay_22 : decode cX5_pay 22 = .ok (.iconst 1, 1) := by decide +kernel
theorem dX5_pay_23 : decode cX5_pay 23 = .ok (.iconst 0, 1) := by decide +kernel
theorem dX5_pay_24 : decode cX5_pay 24 = .ok (.invokevirtual 73, 3) := by decide +kernel
theorem dX5_pay_27 : decode cX5_pay 27 = .ok (.aload_n 0, 1) := by decide +kernel
theorem dX5_pay_28 : decode cX5_pay 28 = .ok (.iload_n 1, 1) := by decide +kernel
theorem dX5_pay_29 : decode cX5_pay 29 = .ok (.iconst 2, 1) := by decide +kernel
theorem dX5_pay_30 : decode cX5_pay 30 = .ok (.aload_n 0, 1) := by decide +kernel
theorem dX5_pay_31 : decode cX5_pay 31 = .ok (.iload_n 1, 1) := by decide +kernel
theorem dX5_pay_32 : decode cX5_pay 32 = .ok (.iconst 2, 1) := by decide +kernel
theorem dX5_pay_33 : decode cX5_pay 33 = .ok (.invokevirtual 70, 3) := by decide +kernel
theorem dX5_pay_36 : decode cX5_pay 36 = .ok (.iload_n 2, 1) := by decide +kernel
theorem dX5_pay_37 : decode cX5_pay 37 = .ok (.iadd, 1) := by decide +kernel
theorem dX5_pay_38 : decode cX5_pay 38 = .ok (.invokevirtual 73, 3) := by decide +kernel
theorem dX5_pay_41 : decode cX5_pay 41 = .ok (.iload_n 2, 1) := by decide +kernel
theorem dX5_pay_42 : decode cX5_pay 42 = .ok (.ireturn, 1) := by decide +kernel
set_option maxRecDepth 20000 in
theorem ggX5_sun_X5_isFrozen : GoodIn wsX5_sun wsX5_isFrozen := goodIn_r _ [6, 7, 8, 9, 5, 10, 1, 15, 16, 17, 18, 19, 20, 21, 22, 23, 24] (by decide +kernel) (by decide +kernel)
set_option maxRecDepth 20000 in
theorem gX5_sun_X5_isFrozen : GoodIn wsX5_sun (wsV RX5 86 RX5 yX5_isFrozen wsX5_isFrozen) := goodIn_app (goodIn_of _ (by decide +kernel)) ggX5_sun_X5_isFrozen
set_option maxRecDepth 20000 in
theorem ggX5_sun_X5_lay : GoodIn wsX5_sun wsX5_lay := goodIn_r _ [14, 1, 15, 16, 17, 18, 19, 20, 21, 22, 23, 24] (by decide +kernel) (by decide +kernel)
set_option maxRecDepth 20000 in
theorem gX5_sun_X5_lay : GoodIn wsX5_sun (wsV RX5 29 RX5 yX5_lay wsX5_lay) := goodIn_app (goodIn_of _ (by decide +kernel)) ggX5_sun_X5_lay
set_option maxRecDepth 20000 in
theorem ggX5_sun_X5_of : GoodIn wsX5_sun wsX5_of := goodIn_r _ [10, 1, 15, 16, 17, 18, 19, 20, 21, 22, 23, 24] (by decide +kernel) (by decide +kernel)
set_option maxRecDepth 20000 in
theorem gX5_sun_X5_of : GoodIn wsX5_sun (wsV RX5 37 RX5 yX5_of wsX5_of) := goodIn_app (goodIn_of _ (by decide +kernel)) ggX5_sun_X5_of
theorem dX5_sun_0 : decode cX5_sun 0 = .ok (.iconst 0, 1) := by decide +kernel
theorem dX5_sun_1 : decode cX5_sun 1 = .ok (.istore_n 1, 1) := by decide +kernel
theorem dX5_sun_2 : decode cX5_sun 2 = .ok (.iload_n 1, 1) := by decide +kernel
theorem dX5_sun_3 : decode cX5_sun 3 = .ok (.bipush 12, 2) := by decide +kernel
theorem dX5_sun_5 : decode cX5_sun 5 = .ok (.if_icmp .ge 83, 3) := by decide +kernel
theorem dX5_sun_8 : decode cX5_sun 8 = .ok (.aload_n 0, 1) := by decide +kernel
theorem dX5_sun_9 : decode cX5_sun 9 = .ok (.iload_n 1, 1) := by decide +kernel
theorem dX5_sun_10 : decode cX5_sun 10 = .ok (.invokevirtual 86, 3) := by decide +kernel
theorem dX5_sun_13 : decode cX5_sun 13 = .ok (.ifCond .eq 13, 3) := by decide +kernel
theorem dX5_sun_16 : decode cX5_sun 16 = .ok (.aload_n 0, 1) := by decide +kernel
theorem dX5_sun_17 : decode cX5_sun 17 = .ok (.iload_n 1, 1) := by decide +kernel
theorem dX5_sun_18 : decode cX5_sun 18 = .ok (.iconst 2, 1) := by decide +kernel
theorem dX5_sun_19 : decode cX5_sun 19 = .ok (.iconst 0, 1) := by decide +kernel
theorem dX5_sun_20 : decode cX5_sun 20 = .ok (.invokevirtual 29, 3) := by decide +kernel
theorem dX5_sun_23 : decode cX5_sun 23 = .ok (.goto 59, 3) := by decide +kernel
theorem dX5_sun_26 : decode cX5_sun 26 = .ok (.aload_n 0, 1) := by decide +kernel
theorem dX5_sun_27 : decode cX5_sun 27 = .ok (.iload_n 1, 1) := by decide +kernel
theorem dX5_sun_28 : decode cX5_sun 28 = .ok (.iconst 1, 1) := by decide +kernel
theorem dX5_sun_29 : decode cX5_sun 29 = .ok (.invokevirtual 37, 3) := by decide +kernel
theorem dX5_sun_32 : decode cX5_sun 32 = .ok (.aload_n 0, 1) := by decide +kernel
theorem dX5_sun_33 : decode cX5_sun 33 = .ok (.getfield 7, 3) := by decide +kernel
theorem dX5_sun_36 : decode cX5_sun 36 = .ok (.iconst 1, 1) := by decide +kernel
theorem dX5_sun_37 : decode cX5_sun 37 = .ok (.iaload, 1) := by decide +kernel
theorem dX5_sun_38 : decode cX5_sun 38 = .ok (.if_icmp .ge 12, 3) := by decide +kernel
theorem dX5_sun_41 : decode cX5_sun 41 = .ok (.aload_n 0, 1) := by decide +kernel
theorem dX5_sun_42 : decode cX5_sun 42 = .ok (.iload_n 1, 1) := by decide +kernel
theorem dX5_sun_43 : decode cX5_sun 43 = .ok (.iconst 1, 1) := by decide +kernel
theorem dX5_sun_44 : decode cX5_sun 44 = .ok (.invokevirtual 37, 3) := by decide +kernel
theorem dX5_sun_47 : decode cX5_sun 47 = .ok (.goto 9, 3) := by decide +kernel
theorem dX5_sun_50 : decode cX5_sun 50 = .ok (.aload_n 0, 1) := by decide +kernel
theorem dX5_sun_51 : decode cX5_sun 51 = .ok (.getfield 7, 3) := by decide +kernel
theorem dX5_sun_54 : decode cX5_sun 54 = .ok (.iconst 1, 1) := by decide +kernel
theorem dX5_sun_55 : decode cX5_sun 55 = .ok (.iaload, 1) := by decide +kernel
theorem dX5_sun_56 : decode cX5_sun 56 = .ok (.istore_n 2, 1) := by decide +kernel
theorem dX5_sun_57 : decode cX5_sun 57 = .ok (.aload_n 0, 1) := by decide +kernel
theorem dX5_sun_58 : decode cX5_sun 58 = .ok (.iload_n 1, 1) := by decide +kernel
theorem dX5_sun_59 : decode cX5_sun 59 = .ok (.iconst 1, 1) := by decide +kernel
theorem dX5_sun_60 : decode cX5_sun 60 = .ok (.aload_n 0, 1) := by decide +kernel
theorem dX5_sun_61 : decode cX5_sun 61 = .ok (.iload_n 1, 1) := by decide +kernel
theorem dX5_sun_62 : decode cX5_sun 62 = .ok (.iconst 1, 1) := by decide +kernel
theorem dX5_sun_63 : decode cX5_sun 63 = .ok (.invokevirtual 37, 3) := by decide +kernel
theorem dX5_sun_66 : decode cX5_sun 66 = .ok (.iload_n 2, 1) := by decide +kernel
theorem dX5_sun_67 : decode cX5_sun 67 = .ok (.isub, 1) := by decide +kernel
theorem dX5_sun_68 : decode cX5_sun 68 = .ok (.invokevirtual 29, 3) := by decide +kernel
theorem dX5_sun_71 : decode cX5_sun 71 = .ok (.aload_n 0, 1) := by decide +kernel
theorem dX5_sun_72 : decode cX5_sun 72 = .ok (.getfield 7, 3) := by decide +kernel
theorem dX5_sun_75 : decode cX5_sun 75 = .ok (.bipush 6, 2) := by decide +kernel
theorem dX5_sun_77 : decode cX5_sun 77 = .ok (.dup2, 1) := by decide +kernel
theorem dX5_sun_78 : decode cX5_sun 78 = .ok (.iaload, 1) := by decide +kernel
theorem dX5_sun_79 : decode cX5_sun 79 = .ok (.iload_n 2, 1) := by decide +kernel
theorem dX5_sun_80 : decode cX5_sun 80 = .ok (.iadd, 1) := by decide +kernel
theorem dX5_sun_81 : decode cX5_sun 81 = .ok (.iastore, 1) := by decide +kernel
theorem dX5_sun_82 : decode cX5_sun 82 = .ok (.iinc 1 1, 3) := by decide +kernel
theorem dX5_sun_85 : decode cX5_sun 85 = .ok (.goto (-83), 3) := by decide +kernel
theorem dX5_sun_88 : decode cX5_sun 88 = .ok (.return_, 1) := by decide +kernel
set_option maxRecDepth 20000 in
theorem ggX5_rain_X5_isFrozen : GoodIn wsX5_rain wsX5_isFrozen := goodIn_r _ [6, 7, 8, 9, 5, 10, 1, 15, 16, 17, 18, 19, 20, 21, 22, 23, 24] (by decide +kernel) (by decide +kernel)
set_option maxRecDepth 20000 in
theorem gX5_rain_X5_isFrozen : GoodIn wsX5_rain (wsV RX5 86 RX5 yX5_isFrozen wsX5_isFrozen) := goodIn_app (goodIn_of _ (by decide +kernel)) ggX5_rain_X5_isFrozen
set_option maxRecDepth 20000 in
theorem ggX5_rain_X5_of : GoodIn wsX5_rain wsX5_of := goodIn_r _ [10, 1, 15, 16, 17, 18, 19, 20, 21, 22, 23, 24] (by decide +kernel) (by decide +kernel)
set_option maxRecDepth 20000 in
theorem gX5_rain_X5_of : GoodIn wsX5_rain (wsV RX5 37 RX5 yX5_of wsX5_of) := goodIn_app (goodIn_of _ (by decide +kernel)) ggX5_rain_X5_of
set_option maxRecDepth 20000 in
theorem ggX5_rain_X5_lay : GoodIn wsX5_rain wsX5_lay := goodIn_r _ [14, 1, 15, 16, 17, 18, 19, 20, 21, 22, 23, 24] (by decide +kernel) (by decide +kernel)
set_option maxRecDepth 20000 in
theorem gX5_rain_X5_lay : GoodIn wsX5_rain (wsV RX5 29 RX5 yX5_lay wsX5_lay) := goodIn_app (goodIn_of _ (by decide +kernel)) ggX5_rain_X5_lay
theorem dX5_rain_0 : decode cX5_rain 0 = .ok (.iconst 0, 1) := by decide +kernel
theorem dX5_rain_1 : decode cX5_rain 1 = .ok (.istore_n 2, 1) := by decide +kernel
theorem dX5_rain_2 : decode cX5_rain 2 = .ok (.iconst 0, 1) := by decide +kernel
theorem dX5_rain_3 : decode cX5_rain 3 = .ok (.istore_n 3, 1) := by decide +kernel
theorem dX5_rain_4 : decode cX5_rain 4 = .ok (.iload_n 3, 1) := by decide +kernel
theorem dX5_rain_5 : decode cX5_rain 5 = .ok (.bipush 12, 2) := by decide +kernel
theorem dX5_rain_7 : decode cX5_rain 7 = .ok (.if_icmp .ge 90, 3) := by decide +kernel
theorem dX5_rain_10 : decode cX5_rain 10 = .ok (.aload_n 0, 1) := by decide +kernel
theorem dX5_rain_11 : decode cX5_rain 11 = .ok (.iload_n 3, 1) := by decide +kernel
theorem dX5_rain_12 : decode cX5_rain 12 = .ok (.invokevirtual 86, 3) := by decide +kernel
theorem dX5_rain_15 : decode cX5_rain 15 = .ok (.ifCond .eq 19, 3) := by decide +kernel
theorem dX5_rain_18 : decode cX5_rain 18 = .ok (.aload_n 0, 1) := by decide +kernel
theorem dX5_rain_19 : decode cX5_rain 19 = .ok (.getfield 7, 3) := by decide +kernel
theorem dX5_rain_22 : decode cX5_rain 22 = .ok (.bipush 7, 2) := by decide +kernel
theorem dX5_rain_24 : decode cX5_rain 24 = .ok (.dup2, 1) := by decide +kernel
theorem dX5_rain_25 : decode cX5_rain 25 = .ok (.iaload, 1) := by decide +kernel
theorem dX5_rain_26 : decode cX5_rain 26 = .ok (.iload_n 2, 1) := by decide +kernel
theorem dX5_rain_27 : decode cX5_rain 27 = .ok (.iadd, 1) := by decide +kernel
theorem dX5_rain_28 : decode cX5_rain 28 = .ok (.iastore, 1) := by decide +kernel
theorem dX5_rain_29 : decode cX5_rain 29 = .ok (.iconst 0, 1) := by decide +kernel
theorem dX5_rain_30 : decode cX5_rain 30 = .ok (.istore_n 2, 1) := by decide +kernel
theorem dX5_rain_31 : decode cX5_rain 31 = .ok (.goto 60, 3) := by decide +kernel
theorem dX5_rain_34 : decode cX5_rain 34 = .ok (.aload_n 0, 1) := by decide +kernel
theorem dX5_rain_35 : decode cX5_rain 35 = .ok (.iload_n 3, 1) := by decide +kernel
theorem dX5_rain_36 : decode cX5_rain 36 = .ok (.iconst 1, 1) := by decide +kernel
theorem dX5_rain_37 : decode cX5_rain 37 = .ok (.invokevirtual 37, 3) := by decide +kernel
theorem dX5_rain_40 : decode cX5_rain 40 = .ok (.iload_n 1, 1) := by decide +kernel
theorem dX5_rain_41 : decode cX5_rain 41 = .ok (.iadd, 1) := by decide +kernel
theorem dX5_rain_42 : decode cX5_rain 42 = .ok (.iload_n 2, 1) := by decide +kernel
theorem dX5_rain_43 : decode cX5_rain 43 = .ok (.iadd, 1) := by decide +kernel
theorem dX5_rain_44 : decode cX5_rain 44 = .ok (.istore 4, 2) := by decide +kernel
theorem dX5_rain_46 : decode cX5_rain 46 = .ok (.aload_n 0, 1) := by decide +kernel
theorem dX5_rain_47 : decode cX5_rain 47 = .ok (.iload_n 3, 1) := by decide +kernel
theorem dX5_rain_48 : decode cX5_rain 48 = .ok (.iconst 0, 1) := by decide +kernel
theorem dX5_rain_49 : decode cX5_rain 49 = .ok (.invokevirtual 37, 3) := by decide +kernel
theorem dX5_rain_52 : decode cX5_rain 52 = .ok (.istore 5, 2) := by decide +kernel
theorem dX5_rain_54 : decode cX5_rain 54 = .ok (.aload_n 0, 1) := by decide +kernel
theorem dX5_rain_55 : decode cX5_rain 55 = .ok (.getfield 7, 3) := by decide +kernel
theorem dX5_rain_58 : decode cX5_rain 58 = .ok (.iconst 5, 1) := by decide +kernel
theorem dX5_rain_59 : decode cX5_rain 59 = .ok (.dup2, 1) := by decide +kernel
theorem dX5_rain_60 : decode cX5_rain 60 = .ok (.iaload, 1) := by decide +kernel
theorem dX5_rain_61 : decode cX5_rain 61 = .ok (.iload_n 1, 1) := by decide +kernel
theorem dX5_rain_62 : decode cX5_rain 62 = .ok (.iadd, 1) := by decide +kernel
theorem dX5_rain_63 : decode cX5_rain 63 = .ok (.iastore, 1) := by decide +kernel
theorem dX5_rain_64 : decode cX5_rain 64 = .ok (.iload 4, 2) := by decide +kernel
theorem dX5_rain_66 : decode cX5_rain 66 = .ok (.iload 5, 2) := by decide +kernel
theorem dX5_rain_68 : decode cX5_rain 68 = .ok (.if_icmp .le 11, 3) := by decide +kernel
theorem dX5_rain_71 : decode cX5_rain 71 = .ok (.iload 4, 2) := by decide +kernel
theorem dX5_rain_73 : decode cX5_rain 73 = .ok (.iload 5, 2) := by decide +kernel
theorem dX5_rain_75 : decode cX5_rain 75 = .ok (.isub, 1) := by decide +kernel
theorem dX5_rain_76 : decode cX5_rain 76 = .ok (.goto 4, 3) := by decide +kernel
theorem dX5_rain_79 : decode cX5_rain 79 = .ok (.iconst 0, 1) := by decide +kernel
theorem dX5_rain_80 : decode cX5_rain 80 = .ok (.istore_n 2, 1) := by decide +kernel
theorem dX5_rain_81 : decode cX5_rain 81 = .ok (.aload_n 0, 1) := by decide +kernel
theorem dX5_rain_82 : decode cX5_rain 82 = .ok (.iload_n 3, 1) := by decide +kernel
theorem dX5_rain_83 : decode cX5_rain 83 = .ok (.iconst 1, 1) := by decide +kernel
theorem dX5_rain_84 : decode cX5_rain 84 = .ok (.iload 4, 2) := by decide +kernel
theorem dX5_rain_86 : decode cX5_rain 86 = .ok (.iload_n 2, 1) := by decide +kernel
theorem dX5_rain_87 : decode cX5_rain 87 = .ok (.isub, 1) := by decide +kernel
theorem dX5_rain_88 : decode cX5_rain 88 = .ok (.invokevirtual 29, 3) := by decide +kernel
theorem dX5_rain_91 : decode cX5_rain 91 = .ok (.iinc 3 1, 3) := by decide +kernel
theorem dX5_rain_94 : decode cX5_rain 94 = .ok (.goto (-90), 3) := by decide +kernel
theorem dX5_rain_97 : decode cX5_rain 97 = .ok (.aload_n 0, 1) := by decide +kernel
theorem dX5_rain_98 : decode cX5_rain 98 = .ok (.getfield 7, 3) := by decide +kernel
theorem dX5_rain_101 : decode cX5_rain 101 = .ok (.bipush 7, 2) := by decide +kernel
theorem dX5_rain_103 : decode cX5_rain 103 = .ok (.dup2, 1) := by decide +kernel
theorem dX5_rain_104 : decode cX5_rain 104 = .ok (.iaload, 1) := by decide +kernel
theorem dX5_rain_105 : decode cX5_rain 105 = .ok (.iload_n 2, 1) := by decide +kernel
theorem dX5_rain_106 : decode cX5_rain 106 = .ok (.iadd, 1) := by decide +kernel
theorem dX5_rain_107 : decode cX5_rain 107 = .ok (.iastore, 1) := by decide +kernel
theorem dX5_rain_108 : decode cX5_rain 108 = .ok (.return_, 1) := by decide +kernel
