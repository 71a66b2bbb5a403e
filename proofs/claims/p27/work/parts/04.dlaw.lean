set_option maxRecDepth 20000 in
theorem ggL_seen_X4_count : GoodIn wsL_seen wsX4_count := goodIn_r _ [7, 8, 9, 10, 11, 12, 13, 14, 15, 16, 17, 18, 19, 20, 21, 22, 23, 24, 6, 25, 26, 27, 28, 29, 30, 31, 32, 33, 34, 35, 36, 37, 38, 39, 40, 41, 42, 43, 44, 45, 46, 47, 48, 114, 115, 116, 117, 118, 119, 120, 121, 122, 123, 124, 125, 126, 127, 128, 129, 130, 131, 132, 133, 134, 135, 136] (by decide +kernel) (by decide +kernel)
set_option maxRecDepth 20000 in
theorem gL_seen_X4_count : GoodIn wsL_seen (wsV RL 14 RX4 yX4_count wsX4_count) := goodIn_app (goodIn_of _ (by decide +kernel)) ggL_seen_X4_count
set_option maxRecDepth 20000 in
theorem ggL_seen_X4_holds : GoodIn wsL_seen wsX4_holds := goodIn_r _ [52, 8, 53, 54, 55, 6, 56, 57, 58, 59, 60, 40, 41, 114, 115, 116, 117, 118, 119, 120, 121, 122, 123, 124, 125, 126, 127, 128, 129, 130, 131, 132] (by decide +kernel) (by decide +kernel)
set_option maxRecDepth 20000 in
theorem gL_seen_X4_holds : GoodIn wsL_seen (wsV RL 20 RX4 yX4_holds wsX4_holds) := goodIn_app (goodIn_of _ (by decide +kernel)) ggL_seen_X4_holds
set_option maxRecDepth 20000 in
theorem ggL_seen_X4_puddle : GoodIn wsL_seen wsX4_puddle := goodIn_r _ [64, 8, 65, 11, 66, 57, 58, 6, 59, 67, 68, 69, 29, 70, 71, 72, 73, 74, 75, 76, 77, 78, 79, 80, 81, 82, 83, 84, 85, 86, 87, 35, 36, 37, 38, 39, 40, 41, 114, 115, 116, 117, 118, 119, 120, 121, 122, 123, 124, 125, 126, 127, 128, 129, 130, 131, 132] (by decide +kernel) (by decide +kernel)
set_option maxRecDepth 20000 in
theorem gL_seen_X4_puddle : GoodIn wsL_seen (wsV RL 24 RX4 yX4_puddle wsX4_puddle) := goodIn_app (goodIn_of _ (by decide +kernel)) ggL_seen_X4_puddle
set_option maxRecDepth 20000 in
theorem ggL_seen_X4_walker : GoodIn wsL_seen wsX4_walker := goodIn_r _ [91, 8, 92, 17, 18, 93, 54, 55, 6, 56, 94, 32, 33, 29, 34, 35, 36, 37, 38, 39, 40, 41, 95, 96, 97, 98, 99, 100, 101, 102, 103, 104, 105, 106, 107, 108, 80, 81, 82, 83, 77, 78, 109, 68, 69, 70, 71, 110, 73, 74, 75, 76, 111, 112, 113, 114, 115, 116, 117, 118, 119, 120, 121, 122, 123, 124, 125, 126, 127, 128, 129, 130, 131, 132] (by decide +kernel) (by decide +kernel)
set_option maxRecDepth 20000 in
theorem gL_seen_X4_walker : GoodIn wsL_seen (wsV RL 27 RX4 yX4_walker wsX4_walker) := goodIn_app (goodIn_of _ (by decide +kernel)) ggL_seen_X4_walker
theorem dL_seen_0 : decode cL_seen 0 = .ok (.ldc2_w 10, 3) := by decide +kernel
theorem dL_seen_3 : decode cL_seen 3 = .ok (.lstore_n 1, 1) := by decide +kernel
theorem dL_seen_4 : decode cL_seen 4 = .ok (.iconst 0, 1) := by decide +kernel
theorem dL_seen_5 : decode cL_seen 5 = .ok (.istore_n 3, 1) := by decide +kernel
theorem dL_seen_6 : decode cL_seen 6 = .ok (.iload_n 3, 1) := by decide +kernel
theorem dL_seen_7 : decode cL_seen 7 = .ok (.bipush 14, 2) := by decide +kernel
theorem dL_seen_9 : decode cL_seen 9 = .ok (.if_icmp .ge 22, 3) := by decide +kernel
theorem dL_seen_12 : decode cL_seen 12 = .ok (.ldc2_w 12, 3) := by decide +kernel
theorem dL_seen_15 : decode cL_seen 15 = .ok (.lload_n 1, 1) := by decide +kernel
theorem dL_seen_16 : decode cL_seen 16 = .ok (.lmul, 1) := by decide +kernel
theorem dL_seen_17 : decode cL_seen 17 = .ok (.aload_n 0, 1) := by decide +kernel
theorem dL_seen_18 : decode cL_seen 18 = .ok (.iload_n 3, 1) := by decide +kernel
theorem dL_seen_19 : decode cL_seen 19 = .ok (.invokevirtual 14, 3) := by decide +kernel
theorem dL_seen_22 : decode cL_seen 22 = .ok (.i2l, 1) := by decide +kernel
theorem dL_seen_23 : decode cL_seen 23 = .ok (.ladd, 1) := by decide +kernel
theorem dL_seen_24 : decode cL_seen 24 = .ok (.lstore_n 1, 1) := by decide +kernel
theorem dL_seen_25 : decode cL_seen 25 = .ok (.iinc 3 1, 3) := by decide +kernel
theorem dL_seen_28 : decode cL_seen 28 = .ok (.goto (-22), 3) := by decide +kernel
theorem dL_seen_31 : decode cL_seen 31 = .ok (.iconst 0, 1) := by decide +kernel
theorem dL_seen_32 : decode cL_seen 32 = .ok (.istore_n 3, 1) := by decide +kernel
theorem dL_seen_33 : decode cL_seen 33 = .ok (.iload_n 3, 1) := by decide +kernel
theorem dL_seen_34 : decode cL_seen 34 = .ok (.bipush 72, 2) := by decide +kernel
theorem dL_seen_36 : decode cL_seen 36 = .ok (.if_icmp .ge 65, 3) := by decide +kernel
theorem dL_seen_39 : decode cL_seen 39 = .ok (.ldc2_w 12, 3) := by decide +kernel
theorem dL_seen_42 : decode cL_seen 42 = .ok (.ldc2_w 12, 3) := by decide +kernel
theorem dL_seen_45 : decode cL_seen 45 = .ok (.ldc2_w 12, 3) := by decide +kernel
theorem dL_seen_48 : decode cL_seen 48 = .ok (.lload_n 1, 1) := by decide +kernel
theorem dL_seen_49 : decode cL_seen 49 = .ok (.lmul, 1) := by decide +kernel
theorem dL_seen_50 : decode cL_seen 50 = .ok (.aload_n 0, 1) := by decide +kernel
theorem dL_seen_51 : decode cL_seen 51 = .ok (.iload_n 3, 1) := by decide +kernel
theorem dL_seen_52 : decode cL_seen 52 = .ok (.bipush 12, 2) := by decide +kernel
theorem dL_seen_54 : decode cL_seen 54 = .ok (.idiv, 1) := by decide +kernel
theorem dL_seen_55 : decode cL_seen 55 = .ok (.iload_n 3, 1) := by decide +kernel
theorem dL_seen_56 : decode cL_seen 56 = .ok (.bipush 12, 2) := by decide +kernel
theorem dL_seen_58 : decode cL_seen 58 = .ok (.irem, 1) := by decide +kernel
theorem dL_seen_59 : decode cL_seen 59 = .ok (.invokevirtual 20, 3) := by decide +kernel
theorem dL_seen_62 : decode cL_seen 62 = .ok (.i2l, 1) := by decide +kernel
theorem dL_seen_63 : decode cL_seen 63 = .ok (.ladd, 1) := by decide +kernel
theorem dL_seen_64 : decode cL_seen 64 = .ok (.lmul, 1) := by decide +kernel
theorem dL_seen_65 : decode cL_seen 65 = .ok (.aload_n 0, 1) := by decide +kernel
theorem dL_seen_66 : decode cL_seen 66 = .ok (.iload_n 3, 1) := by decide +kernel
theorem dL_seen_67 : decode cL_seen 67 = .ok (.bipush 6, 2) := by decide +kernel
theorem dL_seen_69 : decode cL_seen 69 = .ok (.idiv, 1) := by decide +kernel
theorem dL_seen_70 : decode cL_seen 70 = .ok (.iload_n 3, 1) := by decide +kernel
theorem dL_seen_71 : decode cL_seen 71 = .ok (.bipush 6, 2) := by decide +kernel
theorem dL_seen_73 : decode cL_seen 73 = .ok (.irem, 1) := by decide +kernel
theorem dL_seen_74 : decode cL_seen 74 = .ok (.invokevirtual 24, 3) := by decide +kernel
theorem dL_seen_77 : decode cL_seen 77 = .ok (.i2l, 1) := by decide +kernel
theorem dL_seen_78 : decode cL_seen 78 = .ok (.ladd, 1) := by decide +kernel
theorem dL_seen_79 : decode cL_seen 79 = .ok (.lmul, 1) := by decide +kernel
theorem dL_seen_80 : decode cL_seen 80 = .ok (.aload_n 0, 1) := by decide +kernel
theorem dL_seen_81 : decode cL_seen 81 = .ok (.iload_n 3, 1) := by decide +kernel
theorem dL_seen_82 : decode cL_seen 82 = .ok (.bipush 12, 2) := by decide +kernel
theorem dL_seen_84 : decode cL_seen 84 = .ok (.idiv, 1) := by decide +kernel
theorem dL_seen_85 : decode cL_seen 85 = .ok (.iload_n 3, 1) := by decide +kernel
theorem dL_seen_86 : decode cL_seen 86 = .ok (.bipush 6, 2) := by decide +kernel
theorem dL_seen_88 : decode cL_seen 88 = .ok (.irem, 1) := by decide +kernel
theorem dL_seen_89 : decode cL_seen 89 = .ok (.invokevirtual 27, 3) := by decide +kernel
theorem dL_seen_92 : decode cL_seen 92 = .ok (.i2l, 1) := by decide +kernel
theorem dL_seen_93 : decode cL_seen 93 = .ok (.ladd, 1) := by decide +kernel
theorem dL_seen_94 : decode cL_seen 94 = .ok (.lstore_n 1, 1) := by decide +kernel
theorem dL_seen_95 : decode cL_seen 95 = .ok (.iinc 3 1, 3) := by decide +kernel
theorem dL_seen_98 : decode cL_seen 98 = .ok (.goto (-65), 3) := by decide +kernel
theorem dL_seen_101 : decode cL_seen 101 = .ok (.lload_n 1, 1) := by decide +kernel
theorem dL_seen_102 : decode cL_seen 102 = .ok (.lreturn, 1) := by decide +kernel
theorem dL_size_0 : decode cL_size 0 = .ok (.iconst 0, 1) := by decide +kernel
theorem dL_size_1 : decode cL_size 1 = .ok (.istore_n 1, 1) := by decide +kernel
theorem dL_size_2 : decode cL_size 2 = .ok (.iload_n 0, 1) := by decide +kernel
theorem dL_size_3 : decode cL_size 3 = .ok (.istore_n 2, 1) := by decide +kernel
theorem dL_size_4 : decode cL_size 4 = .ok (.iload_n 2, 1) := by decide +kernel
theorem dL_size_5 : decode cL_size 5 = .ok (.ifCond .eq 15, 3) := by decide +kernel
theorem dL_size_8 : decode cL_size 8 = .ok (.iinc 1 1, 3) := by decide +kernel
theorem dL_size_11 : decode cL_size 11 = .ok (.iload_n 2, 1) := by decide +kernel
theorem dL_size_12 : decode cL_size 12 = .ok (.iload_n 2, 1) := by decide +kernel
theorem dL_size_13 : decode cL_size 13 = .ok (.iconst 1, 1) := by decide +kernel
theorem dL_size_14 : decode cL_size 14 = .ok (.isub, 1) := by decide +kernel
theorem dL_size_15 : decode cL_size 15 = .ok (.iand, 1) := by decide +kernel
theorem dL_size_16 : decode cL_size 16 = .ok (.istore_n 2, 1) := by decide +kernel
theorem dL_size_17 : decode cL_size 17 = .ok (.goto (-13), 3) := by decide +kernel
theorem dL_size_20 : decode cL_size 20 = .ok (.iload_n 1, 1) := by decide +kernel
theorem dL_size_21 : decode cL_size 21 = .ok (.ireturn, 1) := by decide +kernel
set_option maxRecDepth 20000 in
theorem ggL_areAll_X4_puddle : GoodIn wsL_areAll wsX4_puddle := goodIn_r _ [5, 6, 7, 8, 9, 10, 11, 4, 12, 13, 14, 15, 16, 17, 18, 19, 20, 21, 22, 23, 24, 25, 26, 27, 28, 29, 30, 31, 32, 33, 34, 35, 36, 37, 38, 39, 40, 41, 138, 139, 140, 141, 142, 143, 144, 145, 146, 147, 148, 149, 150, 151, 152, 153, 154, 155, 156] (by decide +kernel) (by decide +kernel)
set_option maxRecDepth 20000 in
theorem gL_areAll_X4_puddle : GoodIn wsL_areAll (wsV RL 24 RX4 yX4_puddle wsX4_puddle) := goodIn_app (goodIn_of _ (by decide +kernel)) ggL_areAll_X4_puddle
set_option maxRecDepth 20000 in
theorem ggL_areAll_L_size : GoodIn wsL_areAll wsL_size := goodIn_r _ [45] (by decide +kernel) (by decide +kernel)
set_option maxRecDepth 20000 in
theorem gL_areAll_L_size : GoodIn wsL_areAll (va_wsS RL 30 yL_size wsL_size) := goodIn_app (goodIn_of _ (by decide +kernel)) ggL_areAll_L_size
set_option maxRecDepth 20000 in
theorem ggL_areAll_X4_untilDry : GoodIn wsL_areAll wsX4_untilDry := goodIn_r _ [49, 6, 8, 50, 10, 11, 4, 12, 19, 20, 21, 16, 22, 23, 24, 25, 138, 139, 140, 141, 142, 143, 144, 145, 146, 147, 148, 149, 150, 151, 152, 153, 154, 155, 156] (by decide +kernel) (by decide +kernel)
set_option maxRecDepth 20000 in
theorem gL_areAll_X4_untilDry : GoodIn wsL_areAll (wsV RL 35 RX4 yX4_untilDry wsX4_untilDry) := goodIn_app (goodIn_of _ (by decide +kernel)) ggL_areAll_X4_untilDry
set_option maxRecDepth 20000 in
theorem ggL_areAll_X4_count : GoodIn wsL_areAll wsX4_count := goodIn_r _ [54, 6, 50, 55, 8, 56, 57, 58, 59, 60, 61, 62, 63, 64, 65, 66, 67, 68, 4, 69, 70, 71, 72, 16, 73, 74, 75, 76, 77, 35, 36, 37, 38, 39, 40, 41, 78, 79, 80, 81, 82, 83, 84, 138, 139, 140, 141, 142, 143, 144, 145, 146, 147, 148, 149, 150, 151, 152, 153, 154, 155, 156, 157, 158, 159, 160] (by decide +kernel) (by decide +kernel)
set_option maxRecDepth 20000 in
theorem gL_areAll_X4_count : GoodIn wsL_areAll (wsV RL 14 RX4 yX4_count wsX4_count) := goodIn_app (goodIn_of _ (by decide +kernel)) ggL_areAll_X4_count
set_option maxRecDepth 20000 in
theorem ggL_areAll_X4_walker : GoodIn wsL_areAll wsX4_walker := goodIn_r _ [88, 6, 89, 61, 62, 90, 91, 92, 4, 93, 94, 75, 76, 16, 77, 35, 36, 37, 38, 39, 40, 41, 95, 96, 97, 98, 99, 100, 101, 102, 103, 104, 105, 106, 107, 108, 27, 28, 29, 30, 24, 25, 109, 14, 15, 17, 18, 110, 20, 21, 22, 23, 111, 112, 113, 138, 139, 140, 141, 142, 143, 144, 145, 146, 147, 148, 149, 150, 151, 152, 153, 154, 155, 156] (by decide +kernel) (by decide +kernel)
set_option maxRecDepth 20000 in
theorem gL_areAll_X4_walker : GoodIn wsL_areAll (wsV RL 27 RX4 yX4_walker wsX4_walker) := goodIn_app (goodIn_of _ (by decide +kernel)) ggL_areAll_X4_walker
set_option maxRecDepth 20000 in
theorem ggL_areAll_X4_leastShoes : GoodIn wsL_areAll wsX4_leastShoes := goodIn_r _ [117, 6, 91, 92, 4, 93, 118, 119, 120, 16, 121, 104, 105, 106, 107, 108, 27, 28, 29, 30, 24, 25, 35, 36, 37, 38, 39, 40, 41, 109, 14, 15, 17, 18, 110, 20, 21, 22, 23, 111, 112, 113, 138, 139, 140, 141, 142, 143, 144, 145, 146, 147, 148, 149, 150, 151, 152, 153, 154, 155, 156] (by decide +kernel) (by decide +kernel)
set_option maxRecDepth 20000 in
theorem gL_areAll_X4_leastShoes : GoodIn wsL_areAll (wsV RL 38 RX4 yX4_leastShoes wsX4_leastShoes) := goodIn_app (goodIn_of _ (by decide +kernel)) ggL_areAll_X4_leastShoes
set_option maxRecDepth 20000 in
theorem ggL_areAll_X4_longestWalk : GoodIn wsL_areAll wsX4_longestWalk := goodIn_r _ [125, 6, 91, 92, 4, 93, 95, 96, 97, 16, 98, 99, 100, 101, 102, 103, 104, 105, 106, 107, 108, 27, 28, 29, 30, 24, 25, 35, 36, 37, 38, 39, 40, 41, 109, 14, 15, 17, 18, 110, 20, 21, 22, 23, 111, 112, 113, 126, 138, 139, 140, 141, 142, 143, 144, 145, 146, 147, 148, 149, 150, 151, 152, 153, 154, 155, 156] (by decide +kernel) (by decide +kernel)
set_option maxRecDepth 20000 in
theorem gL_areAll_X4_longestWalk : GoodIn wsL_areAll (wsV RL 41 RX4 yX4_longestWalk wsX4_longestWalk) := goodIn_app (goodIn_of _ (by decide +kernel)) ggL_areAll_X4_longestWalk
set_option maxRecDepth 20000 in
theorem ggL_areAll_X4_why : GoodIn wsL_areAll wsX4_why := goodIn_r _ [130, 6, 89, 91, 92, 4, 93, 10, 11, 12, 131, 105, 106, 16, 107, 108, 27, 28, 29, 30, 24, 25, 35, 36, 37, 38, 39, 40, 41, 109, 14, 15, 17, 18, 110, 20, 21, 22, 23, 111, 112, 113, 138, 139, 140, 141, 142, 143, 144, 145, 146, 147, 148, 149, 150, 151, 152, 153, 154, 155, 156] (by decide +kernel) (by decide +kernel)
set_option maxRecDepth 20000 in
theorem gL_areAll_X4_why : GoodIn wsL_areAll (wsV RL 44 RX4 yX4_why wsX4_why) := goodIn_app (goodIn_of _ (by decide +kernel)) ggL_areAll_X4_why
set_option maxRecDepth 20000 in
theorem ggL_areAll_X4_holds : GoodIn wsL_areAll wsX4_holds := goodIn_r _ [135, 6, 136, 91, 92, 4, 93, 10, 11, 12, 137, 40, 41, 138, 139, 140, 141, 142, 143, 144, 145, 146, 147, 148, 149, 150, 151, 152, 153, 154, 155, 156] (by decide +kernel) (by decide +kernel)
set_option maxRecDepth 20000 in
theorem gL_areAll_X4_holds : GoodIn wsL_areAll (wsV RL 20 RX4 yX4_holds wsX4_holds) := goodIn_app (goodIn_of _ (by decide +kernel)) ggL_areAll_X4_holds
theorem dL_areAll_0 : decode cL_areAll 0 = .ok (.iconst 0, 1) := by decide +kernel
theorem dL_areAll_1 : decode cL_areAll 1 = .ok (.istore_n 1, 1) := by decide +kernel
theorem dL_areAll_2 : decode cL_areAll 2 = .ok (.iconst 0, 1) := by decide +kernel
theorem dL_areAll_3 : decode cL_areAll 3 = .ok (.istore_n 2, 1) := by decide +kernel
theorem dL_areAll_4 : decode cL_areAll 4 = .ok (.iconst 0, 1) := by decide +kernel
theorem dL_areAll_5 : decode cL_areAll 5 = .ok (.istore_n 3, 1) := by decide +kernel
theorem dL_areAll_6 : decode cL_areAll 6 = .ok (.iconst 0, 1) := by decide +kernel
theorem dL_areAll_7 : decode cL_areAll 7 = .ok (.istore 4, 2) := by decide +kernel
theorem dL_areAll_9 : decode cL_areAll 9 = .ok (.iconst 0, 1) := by decide +kernel
theorem dL_areAll_10 : decode cL_areAll 10 = .ok (.istore 5, 2) := by decide +kernel
theorem dL_areAll_12 : decode cL_areAll 12 = .ok (.iconst 1, 1) := by decide +kernel
theorem dL_areAll_13 : decode cL_areAll 13 = .ok (.istore 6, 2) := by decide +kernel
theorem dL_areAll_15 : decode cL_areAll 15 = .ok (.iconst 0, 1) := by decide +kernel
theorem dL_areAll_16 : decode cL_areAll 16 = .ok (.istore 7, 2) := by decide +kernel
theorem dL_areAll_18 : decode cL_areAll 18 = .ok (.iload 7, 2) := by decide +kernel
theorem dL_areAll_20 : decode cL_areAll 20 = .ok (.bipush 12, 2) := by decide +kernel
theorem dL_areAll_22 : decode cL_areAll 22 = .ok (.if_icmp .ge 251, 3) := by decide +kernel
theorem dL_areAll_25 : decode cL_areAll 25 = .ok (.iload 6, 2) := by decide +kernel
theorem dL_areAll_27 : decode cL_areAll 27 = .ok (.ifCond .eq 246, 3) := by decide +kernel
theorem dL_areAll_30 : decode cL_areAll 30 = .ok (.aload_n 0, 1) := by decide +kernel
theorem dL_areAll_31 : decode cL_areAll 31 = .ok (.iload 7, 2) := by decide +kernel
theorem dL_areAll_33 : decode cL_areAll 33 = .ok (.iconst 1, 1) := by decide +kernel
theorem dL_areAll_34 : decode cL_areAll 34 = .ok (.invokevirtual 24, 3) := by decide +kernel
theorem dL_areAll_37 : decode cL_areAll 37 = .ok (.istore 8, 2) := by decide +kernel
theorem dL_areAll_39 : decode cL_areAll 39 = .ok (.iload_n 1, 1) := by decide +kernel
theorem dL_areAll_40 : decode cL_areAll 40 = .ok (.iload 8, 2) := by decide +kernel
theorem dL_areAll_42 : decode cL_areAll 42 = .ok (.iadd, 1) := by decide +kernel
theorem dL_areAll_43 : decode cL_areAll 43 = .ok (.istore_n 1, 1) := by decide +kernel
theorem dL_areAll_44 : decode cL_areAll 44 = .ok (.iload_n 2, 1) := by decide +kernel
theorem dL_areAll_45 : decode cL_areAll 45 = .ok (.aload_n 0, 1) := by decide +kernel
theorem dL_areAll_46 : decode cL_areAll 46 = .ok (.iload 7, 2) := by decide +kernel
theorem dL_areAll_48 : decode cL_areAll 48 = .ok (.iconst 3, 1) := by decide +kernel
theorem dL_areAll_49 : decode cL_areAll 49 = .ok (.invokevirtual 24, 3) := by decide +kernel
theorem dL_areAll_52 : decode cL_areAll 52 = .ok (.iload 7, 2) := by decide +kernel
theorem dL_areAll_54 : decode cL_areAll 54 = .ok (.ishl, 1) := by decide +kernel
theorem dL_areAll_55 : decode cL_areAll 55 = .ok (.ior, 1) := by decide +kernel
theorem dL_areAll_56 : decode cL_areAll 56 = .ok (.istore_n 2, 1) := by decide +kernel
theorem dL_areAll_57 : decode cL_areAll 57 = .ok (.iload_n 3, 1) := by decide +kernel
theorem dL_areAll_58 : decode cL_areAll 58 = .ok (.aload_n 0, 1) := by decide +kernel
theorem dL_areAll_59 : decode cL_areAll 59 = .ok (.iload 7, 2) := by decide +kernel
theorem dL_areAll_61 : decode cL_areAll 61 = .ok (.iconst 4, 1) := by decide +kernel
theorem dL_areAll_62 : decode cL_areAll 62 = .ok (.invokevirtual 24, 3) := by decide +kernel
theorem dL_areAll_65 : decode cL_areAll 65 = .ok (.iload 7, 2) := by decide +kernel
theorem dL_areAll_67 : decode cL_areAll 67 = .ok (.ishl, 1) := by decide +kernel
theorem dL_areAll_68 : decode cL_areAll 68 = .ok (.ior, 1) := by decide +kernel
theorem dL_areAll_69 : decode cL_areAll 69 = .ok (.istore_n 3, 1) := by decide +kernel
theorem dL_areAll_70 : decode cL_areAll 70 = .ok (.iload 4, 2) := by decide +kernel
theorem dL_areAll_72 : decode cL_areAll 72 = .ok (.aload_n 0, 1) := by decide +kernel
theorem dL_areAll_73 : decode cL_areAll 73 = .ok (.iload 7, 2) := by decide +kernel
theorem dL_areAll_75 : decode cL_areAll 75 = .ok (.iconst 5, 1) := by decide +kernel
theorem dL_areAll_76 : decode cL_areAll 76 = .ok (.invokevirtual 24, 3) := by decide +kernel
theorem dL_areAll_79 : decode cL_areAll 79 = .ok (.iadd, 1) := by decide +kernel
theorem dL_areAll_80 : decode cL_areAll 80 = .ok (.istore 4, 2) := by decide +kernel
theorem dL_areAll_82 : decode cL_areAll 82 = .ok (.iload 5, 2) := by decide +kernel
theorem dL_areAll_84 : decode cL_areAll 84 = .ok (.aload_n 0, 1) := by decide +kernel
theorem dL_areAll_85 : decode cL_areAll 85 = .ok (.iload 7, 2) := by decide +kernel
theorem dL_areAll_87 : decode cL_areAll 87 = .ok (.bipush 6, 2) := by decide +kernel
theorem dL_areAll_89 : decode cL_areAll 89 = .ok (.invokevirtual 24, 3) := by decide +kernel
theorem dL_areAll_92 : decode cL_areAll 92 = .ok (.invokestatic 30, 3) := by decide +kernel
theorem dL_areAll_95 : decode cL_areAll 95 = .ok (.iadd, 1) := by decide +kernel
theorem dL_areAll_96 : decode cL_areAll 96 = .ok (.istore 5, 2) := by decide +kernel
theorem dL_areAll_98 : decode cL_areAll 98 = .ok (.aload_n 0, 1) := by decide +kernel
theorem dL_areAll_99 : decode cL_areAll 99 = .ok (.iload 7, 2) := by decide +kernel
theorem dL_areAll_101 : decode cL_areAll 101 = .ok (.invokevirtual 35, 3) := by decide +kernel
theorem dL_areAll_104 : decode cL_areAll 104 = .ok (.istore 9, 2) := by decide +kernel
theorem dL_areAll_106 : decode cL_areAll 106 = .ok (.iload 8, 2) := by decide +kernel
theorem dL_areAll_108 : decode cL_areAll 108 = .ok (.ifCond .lt 156, 3) := by decide +kernel
theorem dL_areAll_111 : decode cL_areAll 111 = .ok (.iload 8, 2) := by decide +kernel
theorem dL_areAll_113 : decode cL_areAll 113 = .ok (.aload_n 0, 1) := by decide +kernel
theorem dL_areAll_114 : decode cL_areAll 114 = .ok (.iload 7, 2) := by decide +kernel
theorem dL_areAll_116 : decode cL_areAll 116 = .ok (.iconst 0, 1) := by decide +kernel
theorem dL_areAll_117 : decode cL_areAll 117 = .ok (.invokevirtual 24, 3) := by decide +kernel
theorem dL_areAll_120 : decode cL_areAll 120 = .ok (.if_icmp .gt 144, 3) := by decide +kernel
theorem dL_areAll_123 : decode cL_areAll 123 = .ok (.aload_n 0, 1) := by decide +kernel
theorem dL_areAll_124 : decode cL_areAll 124 = .ok (.iload 7, 2) := by decide +kernel
theorem dL_areAll_126 : decode cL_areAll 126 = .ok (.iconst 0, 1) := by decide +kernel
theorem dL_areAll_127 : decode cL_areAll 127 = .ok (.invokevirtual 24, 3) := by decide +kernel
theorem dL_areAll_130 : decode cL_areAll 130 = .ok (.ifCond .le 134, 3) := by decide +kernel
theorem dL_areAll_133 : decode cL_areAll 133 = .ok (.aload_n 0, 1) := by decide +kernel
theorem dL_areAll_134 : decode cL_areAll 134 = .ok (.iload 7, 2) := by decide +kernel
theorem dL_areAll_136 : decode cL_areAll 136 = .ok (.iconst 0, 1) := by decide +kernel
theorem dL_areAll_137 : decode cL_areAll 137 = .ok (.invokevirtual 24, 3) := by decide +kernel
theorem dL_areAll_140 : decode cL_areAll 140 = .ok (.bipush 60, 2) := by decide +kernel
theorem dL_areAll_142 : decode cL_areAll 142 = .ok (.if_icmp .gt 122, 3) := by decide +kernel
theorem dL_areAll_145 : decode cL_areAll 145 = .ok (.aload_n 0, 1) := by decide +kernel
theorem dL_areAll_146 : decode cL_areAll 146 = .ok (.iload 7, 2) := by decide +kernel
theorem dL_areAll_148 : decode cL_areAll 148 = .ok (.iconst 2, 1) := by decide +kernel
theorem dL_areAll_149 : decode cL_areAll 149 = .ok (.invokevirtual 24, 3) := by decide +kernel
theorem dL_areAll_152 : decode cL_areAll 152 = .ok (.iload 8, 2) := by decide +kernel
theorem dL_areAll_154 : decode cL_areAll 154 = .ok (.iconst 5, 1) := by decide +kernel
theorem dL_areAll_155 : decode cL_areAll 155 = .ok (.idiv, 1) := by decide +kernel
theorem dL_areAll_156 : decode cL_areAll 156 = .ok (.if_icmp .ne 108, 3) := by decide +kernel
theorem dL_areAll_159 : decode cL_areAll 159 = .ok (.aload_n 0, 1) := by decide +kernel
theorem dL_areAll_160 : decode cL_areAll 160 = .ok (.iload 7, 2) := by decide +kernel
theorem dL_areAll_162 : decode cL_areAll 162 = .ok (.iconst 3, 1) := by decide +kernel
theorem dL_areAll_163 : decode cL_areAll 163 = .ok (.invokevirtual 24, 3) := by decide +kernel
theorem dL_areAll_166 : decode cL_areAll 166 = .ok (.ifCond .lt 98, 3) := by decide +kernel
theorem dL_areAll_169 : decode cL_areAll 169 = .ok (.aload_n 0, 1) := by decide +kernel
theorem dL_areAll_170 : decode cL_areAll 170 = .ok (.iload 7, 2) := by decide +kernel
theorem dL_areAll_172 : decode cL_areAll 172 = .ok (.iconst 3, 1) := by decide +kernel
theorem dL_areAll_173 : decode cL_areAll 173 = .ok (.invokevirtual 24, 3) := by decide +kernel
theorem dL_areAll_176 : decode cL_areAll 176 = .ok (.iconst 2, 1) := by decide +kernel
theorem dL_areAll_177 : decode cL_areAll 177 = .ok (.if_icmp .ge 87, 3) := by decide +kernel
theorem dL_areAll_180 : decode cL_areAll 180 = .ok (.aload_n 0, 1) := by decide +kernel
theorem dL_areAll_181 : decode cL_areAll 181 = .ok (.iload 7, 2) := by decide +kernel
theorem dL_areAll_183 : decode cL_areAll 183 = .ok (.bipush 6, 2) := by decide +kernel
theorem dL_areAll_185 : decode cL_areAll 185 = .ok (.invokevirtual 24, 3) := by decide +kernel
theorem dL_areAll_188 : decode cL_areAll 188 = .ok (.ifCond .lt 76, 3) := by decide +kernel
theorem dL_areAll_191 : decode cL_areAll 191 = .ok (.aload_n 0, 1) := by decide +kernel
theorem dL_areAll_192 : decode cL_areAll 192 = .ok (.iload 7, 2) := by decide +kernel
theorem dL_areAll_194 : decode cL_areAll 194 = .ok (.bipush 6, 2) := by decide +kernel
theorem dL_areAll_196 : decode cL_areAll 196 = .ok (.invokevirtual 24, 3) := by decide +kernel
theorem dL_areAll_199 : decode cL_areAll 199 = .ok (.bipush 64, 2) := by decide +kernel
theorem dL_areAll_201 : decode cL_areAll 201 = .ok (.if_icmp .ge 63, 3) := by decide +kernel
theorem dL_areAll_204 : decode cL_areAll 204 = .ok (.iload 9, 2) := by decide +kernel
theorem dL_areAll_206 : decode cL_areAll 206 = .ok (.ifCond .ne 7, 3) := by decide +kernel
theorem dL_areAll_209 : decode cL_areAll 209 = .ok (.iconst 1, 1) := by decide +kernel
theorem dL_areAll_210 : decode cL_areAll 210 = .ok (.goto 4, 3) := by decide +kernel
theorem dL_areAll_213 : decode cL_areAll 213 = .ok (.iconst 0, 1) := by decide +kernel
theorem dL_areAll_214 : decode cL_areAll 214 = .ok (.iload 8, 2) := by decide +kernel
theorem dL_areAll_216 : decode cL_areAll 216 = .ok (.ifCond .ne 7, 3) := by decide +kernel
theorem dL_areAll_219 : decode cL_areAll 219 = .ok (.iconst 1, 1) := by decide +kernel
theorem dL_areAll_220 : decode cL_areAll 220 = .ok (.goto 4, 3) := by decide +kernel
theorem dL_areAll_223 : decode cL_areAll 223 = .ok (.iconst 0, 1) := by decide +kernel
theorem dL_areAll_224 : decode cL_areAll 224 = .ok (.if_icmp .ne 40, 3) := by decide +kernel
theorem dL_areAll_227 : decode cL_areAll 227 = .ok (.iload 9, 2) := by decide +kernel
theorem dL_areAll_229 : decode cL_areAll 229 = .ok (.bipush (-6), 2) := by decide +kernel
theorem dL_areAll_231 : decode cL_areAll 231 = .ok (.if_icmp .ne 7, 3) := by decide +kernel
theorem dL_areAll_234 : decode cL_areAll 234 = .ok (.iconst 1, 1) := by decide +kernel
theorem dL_areAll_235 : decode cL_areAll 235 = .ok (.goto 4, 3) := by decide +kernel
theorem dL_areAll_238 : decode cL_areAll 238 = .ok (.iconst 0, 1) := by decide +kernel
theorem dL_areAll_239 : decode cL_areAll 239 = .ok (.iload 8, 2) := by decide +kernel
theorem dL_areAll_241 : decode cL_areAll 241 = .ok (.ifCond .le 15, 3) := by decide +kernel
theorem dL_areAll_244 : decode cL_areAll 244 = .ok (.aload_n 0, 1) := by decide +kernel
theorem dL_areAll_245 : decode cL_areAll 245 = .ok (.iconst 1, 1) := by decide +kernel
theorem dL_areAll_246 : decode cL_areAll 246 = .ok (.invokevirtual 14, 3) := by decide +kernel
theorem dL_areAll_249 : decode cL_areAll 249 = .ok (.ifCond .ne 7, 3) := by decide +kernel
theorem dL_areAll_252 : decode cL_areAll 252 = .ok (.iconst 1, 1) := by decide +kernel
theorem dL_areAll_253 : decode cL_areAll 253 = .ok (.goto 4, 3) := by decide +kernel
theorem dL_areAll_256 : decode cL_areAll 256 = .ok (.iconst 0, 1) := by decide +kernel
theorem dL_areAll_257 : decode cL_areAll 257 = .ok (.if_icmp .ne 7, 3) := by decide +kernel
theorem dL_areAll_260 : decode cL_areAll 260 = .ok (.iconst 1, 1) := by decide +kernel
theorem dL_areAll_261 : decode cL_areAll 261 = .ok (.goto 4, 3) := by decide +kernel
theorem dL_areAll_264 : decode cL_areAll 264 = .ok (.iconst 0, 1) := by decide +kernel
theorem dL_areAll_265 : decode cL_areAll 265 = .ok (.istore 6, 2) := by decide +kernel
theorem dL_areAll_267 : decode cL_areAll 267 = .ok (.iinc 7 1, 3) := by decide +kernel
theorem dL_areAll_270 : decode cL_areAll 270 = .ok (.goto (-252), 3) := by decide +kernel
theorem dL_areAll_273 : decode cL_areAll 273 = .ok (.iconst 0, 1) := by decide +kernel
theorem dL_areAll_274 : decode cL_areAll 274 = .ok (.istore 7, 2) := by decide +kernel
theorem dL_areAll_276 : decode cL_areAll 276 = .ok (.iconst 0, 1) := by decide +kernel
theorem dL_areAll_277 : decode cL_areAll 277 = .ok (.istore 8, 2) := by decide +kernel
theorem dL_areAll_279 : decode cL_areAll 279 = .ok (.iconst 0, 1) := by decide +kernel
theorem dL_areAll_280 : decode cL_areAll 280 = .ok (.istore 9, 2) := by decide +kernel
theorem dL_areAll_282 : decode cL_areAll 282 = .ok (.iconst 0, 1) := by decide +kernel
theorem dL_areAll_283 : decode cL_areAll 283 = .ok (.istore 10, 2) := by decide +kernel
theorem dL_areAll_285 : decode cL_areAll 285 = .ok (.iconst 0, 1) := by decide +kernel
theorem dL_areAll_286 : decode cL_areAll 286 = .ok (.istore 11, 2) := by decide +kernel
theorem dL_areAll_288 : decode cL_areAll 288 = .ok (.iload 11, 2) := by decide +kernel
theorem dL_areAll_290 : decode cL_areAll 290 = .ok (.bipush 6, 2) := by decide +kernel
theorem dL_areAll_292 : decode cL_areAll 292 = .ok (.if_icmp .ge 504, 3) := by decide +kernel
theorem dL_areAll_295 : decode cL_areAll 295 = .ok (.iload 6, 2) := by decide +kernel
theorem dL_areAll_297 : decode cL_areAll 297 = .ok (.ifCond .eq 499, 3) := by decide +kernel
theorem dL_areAll_300 : decode cL_areAll 300 = .ok (.aload_n 0, 1) := by decide +kernel
theorem dL_areAll_301 : decode cL_areAll 301 = .ok (.iload 11, 2) := by decide +kernel
theorem dL_areAll_303 : decode cL_areAll 303 = .ok (.iconst 5, 1) := by decide +kernel
theorem dL_areAll_304 : decode cL_areAll 304 = .ok (.invokevirtual 27, 3) := by decide +kernel
theorem dL_areAll_307 : decode cL_areAll 307 = .ok (.istore 12, 2) := by decide +kernel
theorem dL_areAll_309 : decode cL_areAll 309 = .ok (.aload_n 0, 1) := by decide +kernel
theorem dL_areAll_310 : decode cL_areAll 310 = .ok (.iload 11, 2) := by decide +kernel
theorem dL_areAll_312 : decode cL_areAll 312 = .ok (.iconst 4, 1) := by decide +kernel
theorem dL_areAll_313 : decode cL_areAll 313 = .ok (.invokevirtual 27, 3) := by decide +kernel
theorem dL_areAll_316 : decode cL_areAll 316 = .ok (.istore 13, 2) := by decide +kernel
theorem dL_areAll_318 : decode cL_areAll 318 = .ok (.aload_n 0, 1) := by decide +kernel
theorem dL_areAll_319 : decode cL_areAll 319 = .ok (.iload 11, 2) := by decide +kernel
theorem dL_areAll_321 : decode cL_areAll 321 = .ok (.invokevirtual 38, 3) := by decide +kernel
theorem dL_areAll_324 : decode cL_areAll 324 = .ok (.istore 14, 2) := by decide +kernel
theorem dL_areAll_326 : decode cL_areAll 326 = .ok (.iload 7, 2) := by decide +kernel
theorem dL_areAll_328 : decode cL_areAll 328 = .ok (.aload_n 0, 1) := by decide +kernel
theorem dL_areAll_329 : decode cL_areAll 329 = .ok (.iload 11, 2) := by decide +kernel
theorem dL_areAll_331 : decode cL_areAll 331 = .ok (.iconst 1, 1) := by decide +kernel
theorem dL_areAll_332 : decode cL_areAll 332 = .ok (.invokevirtual 27, 3) := by decide +kernel
theorem dL_areAll_335 : decode cL_areAll 335 = .ok (.iadd, 1) := by decide +kernel
theorem dL_areAll_336 : decode cL_areAll 336 = .ok (.istore 7, 2) := by decide +kernel
theorem dL_areAll_338 : decode cL_areAll 338 = .ok (.iload 8, 2) := by decide +kernel
theorem dL_areAll_340 : decode cL_areAll 340 = .ok (.aload_n 0, 1) := by decide +kernel
theorem dL_areAll_341 : decode cL_areAll 341 = .ok (.iload 11, 2) := by decide +kernel
theorem dL_areAll_343 : decode cL_areAll 343 = .ok (.iconst 2, 1) := by decide +kernel
theorem dL_areAll_344 : decode cL_areAll 344 = .ok (.invokevirtual 27, 3) := by decide +kernel
theorem dL_areAll_347 : decode cL_areAll 347 = .ok (.iadd, 1) := by decide +kernel
theorem dL_areAll_348 : decode cL_areAll 348 = .ok (.istore 8, 2) := by decide +kernel
theorem dL_areAll_350 : decode cL_areAll 350 = .ok (.iload 9, 2) := by decide +kernel
theorem dL_areAll_352 : decode cL_areAll 352 = .ok (.aload_n 0, 1) := by decide +kernel
theorem dL_areAll_353 : decode cL_areAll 353 = .ok (.iload 11, 2) := by decide +kernel
theorem dL_areAll_355 : decode cL_areAll 355 = .ok (.iconst 3, 1) := by decide +kernel
theorem dL_areAll_356 : decode cL_areAll 356 = .ok (.invokevirtual 27, 3) := by decide +kernel
theorem dL_areAll_359 : decode cL_areAll 359 = .ok (.iadd, 1) := by decide +kernel
theorem dL_areAll_360 : decode cL_areAll 360 = .ok (.istore 9, 2) := by decide +kernel
theorem dL_areAll_362 : decode cL_areAll 362 = .ok (.iload 10, 2) := by decide +kernel
theorem dL_areAll_364 : decode cL_areAll 364 = .ok (.iload 13, 2) := by decide +kernel
theorem dL_areAll_366 : decode cL_areAll 366 = .ok (.invokestatic 30, 3) := by decide +kernel
theorem dL_areAll_369 : decode cL_areAll 369 = .ok (.iadd, 1) := by decide +kernel
theorem dL_areAll_370 : decode cL_areAll 370 = .ok (.istore 10, 2) := by decide +kernel
theorem dL_areAll_372 : decode cL_areAll 372 = .ok (.aload_n 0, 1) := by decide +kernel
theorem dL_areAll_373 : decode cL_areAll 373 = .ok (.iload 11, 2) := by decide +kernel
theorem dL_areAll_375 : decode cL_areAll 375 = .ok (.iconst 0, 1) := by decide +kernel
theorem dL_areAll_376 : decode cL_areAll 376 = .ok (.invokevirtual 27, 3) := by decide +kernel
theorem dL_areAll_379 : decode cL_areAll 379 = .ok (.ifCond .lt 128, 3) := by decide +kernel
theorem dL_areAll_382 : decode cL_areAll 382 = .ok (.aload_n 0, 1) := by decide +kernel
theorem dL_areAll_383 : decode cL_areAll 383 = .ok (.iload 11, 2) := by decide +kernel
theorem dL_areAll_385 : decode cL_areAll 385 = .ok (.iconst 0, 1) := by decide +kernel
theorem dL_areAll_386 : decode cL_areAll 386 = .ok (.invokevirtual 27, 3) := by decide +kernel
theorem dL_areAll_389 : decode cL_areAll 389 = .ok (.iconst 4, 1) := by decide +kernel
theorem dL_areAll_390 : decode cL_areAll 390 = .ok (.if_icmp .ge 117, 3) := by decide +kernel
theorem dL_areAll_393 : decode cL_areAll 393 = .ok (.aload_n 0, 1) := by decide +kernel
theorem dL_areAll_394 : decode cL_areAll 394 = .ok (.iload 11, 2) := by decide +kernel
theorem dL_areAll_396 : decode cL_areAll 396 = .ok (.iconst 1, 1) := by decide +kernel
theorem dL_areAll_397 : decode cL_areAll 397 = .ok (.invokevirtual 27, 3) := by decide +kernel
theorem dL_areAll_400 : decode cL_areAll 400 = .ok (.ifCond .lt 107, 3) := by decide +kernel
theorem dL_areAll_403 : decode cL_areAll 403 = .ok (.iload 12, 2) := by decide +kernel
theorem dL_areAll_405 : decode cL_areAll 405 = .ok (.ifCond .lt 102, 3) := by decide +kernel
theorem dL_areAll_408 : decode cL_areAll 408 = .ok (.iload 12, 2) := by decide +kernel
theorem dL_areAll_410 : decode cL_areAll 410 = .ok (.sipush 4096, 3) := by decide +kernel
theorem dL_areAll_413 : decode cL_areAll 413 = .ok (.if_icmp .ge 94, 3) := by decide +kernel
theorem dL_areAll_416 : decode cL_areAll 416 = .ok (.iload 12, 2) := by decide +kernel
theorem dL_areAll_418 : decode cL_areAll 418 = .ok (.iload_n 3, 1) := by decide +kernel
theorem dL_areAll_419 : decode cL_areAll 419 = .ok (.iand, 1) := by decide +kernel
theorem dL_areAll_420 : decode cL_areAll 420 = .ok (.ifCond .ne 87, 3) := by decide +kernel
theorem dL_areAll_423 : decode cL_areAll 423 = .ok (.iload 13, 2) := by decide +kernel
theorem dL_areAll_425 : decode cL_areAll 425 = .ok (.iload_n 3, 1) := by decide +kernel
theorem dL_areAll_426 : decode cL_areAll 426 = .ok (.iconst (-1), 1) := by decide +kernel
theorem dL_areAll_427 : decode cL_areAll 427 = .ok (.ixor, 1) := by decide +kernel
theorem dL_areAll_428 : decode cL_areAll 428 = .ok (.iand, 1) := by decide +kernel
theorem dL_areAll_429 : decode cL_areAll 429 = .ok (.iload 12, 2) := by decide +kernel
theorem dL_areAll_431 : decode cL_areAll 431 = .ok (.iconst (-1), 1) := by decide +kernel
theorem dL_areAll_432 : decode cL_areAll 432 = .ok (.ixor, 1) := by decide +kernel
theorem dL_areAll_433 : decode cL_areAll 433 = .ok (.iand, 1) := by decide +kernel
theorem dL_areAll_434 : decode cL_areAll 434 = .ok (.ifCond .ne 73, 3) := by decide +kernel
theorem dL_areAll_437 : decode cL_areAll 437 = .ok (.iload 14, 2) := by decide +kernel
theorem dL_areAll_439 : decode cL_areAll 439 = .ok (.bipush (-6), 2) := by decide +kernel
theorem dL_areAll_441 : decode cL_areAll 441 = .ok (.if_icmp .ne 14, 3) := by decide +kernel
theorem dL_areAll_444 : decode cL_areAll 444 = .ok (.iload 12, 2) := by decide +kernel
theorem dL_areAll_446 : decode cL_areAll 446 = .ok (.sipush 4095, 3) := by decide +kernel
theorem dL_areAll_449 : decode cL_areAll 449 = .ok (.if_icmp .eq 58, 3) := by decide +kernel
theorem dL_areAll_452 : decode cL_areAll 452 = .ok (.goto 36, 3) := by decide +kernel
theorem dL_areAll_455 : decode cL_areAll 455 = .ok (.iload 12, 2) := by decide +kernel
theorem dL_areAll_457 : decode cL_areAll 457 = .ok (.sipush 4095, 3) := by decide +kernel
theorem dL_areAll_460 : decode cL_areAll 460 = .ok (.if_icmp .ne 7, 3) := by decide +kernel
theorem dL_areAll_463 : decode cL_areAll 463 = .ok (.iconst 1, 1) := by decide +kernel
theorem dL_areAll_464 : decode cL_areAll 464 = .ok (.goto 4, 3) := by decide +kernel
theorem dL_areAll_467 : decode cL_areAll 467 = .ok (.iconst 0, 1) := by decide +kernel
theorem dL_areAll_468 : decode cL_areAll 468 = .ok (.aload_n 0, 1) := by decide +kernel
theorem dL_areAll_469 : decode cL_areAll 469 = .ok (.iload 11, 2) := by decide +kernel
theorem dL_areAll_471 : decode cL_areAll 471 = .ok (.iconst 0, 1) := by decide +kernel
theorem dL_areAll_472 : decode cL_areAll 472 = .ok (.invokevirtual 27, 3) := by decide +kernel
theorem dL_areAll_475 : decode cL_areAll 475 = .ok (.iload 14, 2) := by decide +kernel
theorem dL_areAll_477 : decode cL_areAll 477 = .ok (.if_icmp .lt 7, 3) := by decide +kernel
theorem dL_areAll_480 : decode cL_areAll 480 = .ok (.iconst 1, 1) := by decide +kernel
theorem dL_areAll_481 : decode cL_areAll 481 = .ok (.goto 4, 3) := by decide +kernel
theorem dL_areAll_484 : decode cL_areAll 484 = .ok (.iconst 0, 1) := by decide +kernel
theorem dL_areAll_485 : decode cL_areAll 485 = .ok (.if_icmp .ne 22, 3) := by decide +kernel
theorem dL_areAll_488 : decode cL_areAll 488 = .ok (.aload_n 0, 1) := by decide +kernel
theorem dL_areAll_489 : decode cL_areAll 489 = .ok (.iload 11, 2) := by decide +kernel
theorem dL_areAll_491 : decode cL_areAll 491 = .ok (.iconst 0, 1) := by decide +kernel
theorem dL_areAll_492 : decode cL_areAll 492 = .ok (.invokevirtual 41, 3) := by decide +kernel
theorem dL_areAll_495 : decode cL_areAll 495 = .ok (.iload 12, 2) := by decide +kernel
theorem dL_areAll_497 : decode cL_areAll 497 = .ok (.invokestatic 30, 3) := by decide +kernel
theorem dL_areAll_500 : decode cL_areAll 500 = .ok (.if_icmp .gt 7, 3) := by decide +kernel
theorem dL_areAll_503 : decode cL_areAll 503 = .ok (.iconst 1, 1) := by decide +kernel
theorem dL_areAll_504 : decode cL_areAll 504 = .ok (.goto 4, 3) := by decide +kernel
theorem dL_areAll_507 : decode cL_areAll 507 = .ok (.iconst 0, 1) := by decide +kernel
theorem dL_areAll_508 : decode cL_areAll 508 = .ok (.istore 6, 2) := by decide +kernel
theorem dL_areAll_510 : decode cL_areAll 510 = .ok (.iconst 0, 1) := by decide +kernel
theorem dL_areAll_511 : decode cL_areAll 511 = .ok (.istore 15, 2) := by decide +kernel
theorem dL_areAll_513 : decode cL_areAll 513 = .ok (.iload 15, 2) := by decide +kernel
theorem dL_areAll_515 : decode cL_areAll 515 = .ok (.bipush 12, 2) := by decide +kernel
theorem dL_areAll_517 : decode cL_areAll 517 = .ok (.if_icmp .ge 273, 3) := by decide +kernel
theorem dL_areAll_520 : decode cL_areAll 520 = .ok (.iload 6, 2) := by decide +kernel
theorem dL_areAll_522 : decode cL_areAll 522 = .ok (.ifCond .eq 268, 3) := by decide +kernel
theorem dL_areAll_525 : decode cL_areAll 525 = .ok (.aload_n 0, 1) := by decide +kernel
theorem dL_areAll_526 : decode cL_areAll 526 = .ok (.iload 11, 2) := by decide +kernel
theorem dL_areAll_528 : decode cL_areAll 528 = .ok (.iload 15, 2) := by decide +kernel
theorem dL_areAll_530 : decode cL_areAll 530 = .ok (.invokevirtual 44, 3) := by decide +kernel
theorem dL_areAll_533 : decode cL_areAll 533 = .ok (.istore 16, 2) := by decide +kernel
theorem dL_areAll_535 : decode cL_areAll 535 = .ok (.aload_n 0, 1) := by decide +kernel
theorem dL_areAll_536 : decode cL_areAll 536 = .ok (.iload 11, 2) := by decide +kernel
theorem dL_areAll_538 : decode cL_areAll 538 = .ok (.iload 15, 2) := by decide +kernel
theorem dL_areAll_540 : decode cL_areAll 540 = .ok (.invokevirtual 20, 3) := by decide +kernel
theorem dL_areAll_543 : decode cL_areAll 543 = .ok (.istore 17, 2) := by decide +kernel
theorem dL_areAll_545 : decode cL_areAll 545 = .ok (.iload 16, 2) := by decide +kernel
theorem dL_areAll_547 : decode cL_areAll 547 = .ok (.ifCond .lt 234, 3) := by decide +kernel
theorem dL_areAll_550 : decode cL_areAll 550 = .ok (.iload 16, 2) := by decide +kernel
theorem dL_areAll_552 : decode cL_areAll 552 = .ok (.iconst 4, 1) := by decide +kernel
theorem dL_areAll_553 : decode cL_areAll 553 = .ok (.if_icmp .ge 228, 3) := by decide +kernel
theorem dL_areAll_556 : decode cL_areAll 556 = .ok (.iload 16, 2) := by decide +kernel
theorem dL_areAll_558 : decode cL_areAll 558 = .ok (.ifCond .ne 7, 3) := by decide +kernel
theorem dL_areAll_561 : decode cL_areAll 561 = .ok (.iconst 1, 1) := by decide +kernel
theorem dL_areAll_562 : decode cL_areAll 562 = .ok (.goto 4, 3) := by decide +kernel
theorem dL_areAll_565 : decode cL_areAll 565 = .ok (.iconst 0, 1) := by decide +kernel
theorem dL_areAll_566 : decode cL_areAll 566 = .ok (.iload 12, 2) := by decide +kernel
theorem dL_areAll_568 : decode cL_areAll 568 = .ok (.iload 15, 2) := by decide +kernel
theorem dL_areAll_570 : decode cL_areAll 570 = .ok (.ishr, 1) := by decide +kernel
theorem dL_areAll_571 : decode cL_areAll 571 = .ok (.iconst 1, 1) := by decide +kernel
theorem dL_areAll_572 : decode cL_areAll 572 = .ok (.iand, 1) := by decide +kernel
theorem dL_areAll_573 : decode cL_areAll 573 = .ok (.iconst 1, 1) := by decide +kernel
theorem dL_areAll_574 : decode cL_areAll 574 = .ok (.if_icmp .ne 7, 3) := by decide +kernel
theorem dL_areAll_577 : decode cL_areAll 577 = .ok (.iconst 1, 1) := by decide +kernel
theorem dL_areAll_578 : decode cL_areAll 578 = .ok (.goto 4, 3) := by decide +kernel
theorem dL_areAll_581 : decode cL_areAll 581 = .ok (.iconst 0, 1) := by decide +kernel
theorem dL_areAll_582 : decode cL_areAll 582 = .ok (.if_icmp .ne 199, 3) := by decide +kernel
theorem dL_areAll_585 : decode cL_areAll 585 = .ok (.iload 16, 2) := by decide +kernel
theorem dL_areAll_587 : decode cL_areAll 587 = .ok (.iconst 1, 1) := by decide +kernel
theorem dL_areAll_588 : decode cL_areAll 588 = .ok (.if_icmp .ne 7, 3) := by decide +kernel
theorem dL_areAll_591 : decode cL_areAll 591 = .ok (.iconst 1, 1) := by decide +kernel
theorem dL_areAll_592 : decode cL_areAll 592 = .ok (.goto 4, 3) := by decide +kernel
theorem dL_areAll_595 : decode cL_areAll 595 = .ok (.iconst 0, 1) := by decide +kernel
theorem dL_areAll_596 : decode cL_areAll 596 = .ok (.iload_n 3, 1) := by decide +kernel
theorem dL_areAll_597 : decode cL_areAll 597 = .ok (.iload 15, 2) := by decide +kernel
theorem dL_areAll_599 : decode cL_areAll 599 = .ok (.ishr, 1) := by decide +kernel
theorem dL_areAll_600 : decode cL_areAll 600 = .ok (.iconst 1, 1) := by decide +kernel
theorem dL_areAll_601 : decode cL_areAll 601 = .ok (.iand, 1) := by decide +kernel
theorem dL_areAll_602 : decode cL_areAll 602 = .ok (.iconst 1, 1) := by decide +kernel
theorem dL_areAll_603 : decode cL_areAll 603 = .ok (.if_icmp .ne 7, 3) := by decide +kernel
theorem dL_areAll_606 : decode cL_areAll 606 = .ok (.iconst 1, 1) := by decide +kernel
theorem dL_areAll_607 : decode cL_areAll 607 = .ok (.goto 4, 3) := by decide +kernel
theorem dL_areAll_610 : decode cL_areAll 610 = .ok (.iconst 0, 1) := by decide +kernel
theorem dL_areAll_611 : decode cL_areAll 611 = .ok (.if_icmp .ne 170, 3) := by decide +kernel
theorem dL_areAll_614 : decode cL_areAll 614 = .ok (.iload 16, 2) := by decide +kernel
theorem dL_areAll_616 : decode cL_areAll 616 = .ok (.iconst 2, 1) := by decide +kernel
theorem dL_areAll_617 : decode cL_areAll 617 = .ok (.if_icmp .ne 40, 3) := by decide +kernel
theorem dL_areAll_620 : decode cL_areAll 620 = .ok (.aload_n 0, 1) := by decide +kernel
theorem dL_areAll_621 : decode cL_areAll 621 = .ok (.iload 15, 2) := by decide +kernel
theorem dL_areAll_623 : decode cL_areAll 623 = .ok (.iconst 2, 1) := by decide +kernel
theorem dL_areAll_624 : decode cL_areAll 624 = .ok (.invokevirtual 24, 3) := by decide +kernel
theorem dL_areAll_627 : decode cL_areAll 627 = .ok (.iconst 2, 1) := by decide +kernel
theorem dL_areAll_628 : decode cL_areAll 628 = .ok (.aload_n 0, 1) := by decide +kernel
theorem dL_areAll_629 : decode cL_areAll 629 = .ok (.iload 11, 2) := by decide +kernel
theorem dL_areAll_631 : decode cL_areAll 631 = .ok (.iconst 0, 1) := by decide +kernel
theorem dL_areAll_632 : decode cL_areAll 632 = .ok (.invokevirtual 27, 3) := by decide +kernel
theorem dL_areAll_635 : decode cL_areAll 635 = .ok (.imul, 1) := by decide +kernel
theorem dL_areAll_636 : decode cL_areAll 636 = .ok (.iconst 1, 1) := by decide +kernel
theorem dL_areAll_637 : decode cL_areAll 637 = .ok (.iadd, 1) := by decide +kernel
theorem dL_areAll_638 : decode cL_areAll 638 = .ok (.if_icmp .le 143, 3) := by decide +kernel
theorem dL_areAll_641 : decode cL_areAll 641 = .ok (.iload_n 2, 1) := by decide +kernel
theorem dL_areAll_642 : decode cL_areAll 642 = .ok (.iload 15, 2) := by decide +kernel
theorem dL_areAll_644 : decode cL_areAll 644 = .ok (.ishr, 1) := by decide +kernel
theorem dL_areAll_645 : decode cL_areAll 645 = .ok (.iconst 1, 1) := by decide +kernel
theorem dL_areAll_646 : decode cL_areAll 646 = .ok (.iand, 1) := by decide +kernel
theorem dL_areAll_647 : decode cL_areAll 647 = .ok (.ifCond .ne 134, 3) := by decide +kernel
theorem dL_areAll_650 : decode cL_areAll 650 = .ok (.iload 17, 2) := by decide +kernel
theorem dL_areAll_652 : decode cL_areAll 652 = .ok (.bipush (-6), 2) := by decide +kernel
theorem dL_areAll_654 : decode cL_areAll 654 = .ok (.if_icmp .ne 127, 3) := by decide +kernel
theorem dL_areAll_657 : decode cL_areAll 657 = .ok (.iload 16, 2) := by decide +kernel
theorem dL_areAll_659 : decode cL_areAll 659 = .ok (.iconst 3, 1) := by decide +kernel
theorem dL_areAll_660 : decode cL_areAll 660 = .ok (.if_icmp .ne 30, 3) := by decide +kernel
theorem dL_areAll_663 : decode cL_areAll 663 = .ok (.iload_n 2, 1) := by decide +kernel
theorem dL_areAll_664 : decode cL_areAll 664 = .ok (.iload 15, 2) := by decide +kernel
theorem dL_areAll_666 : decode cL_areAll 666 = .ok (.ishr, 1) := by decide +kernel
theorem dL_areAll_667 : decode cL_areAll 667 = .ok (.iconst 1, 1) := by decide +kernel
theorem dL_areAll_668 : decode cL_areAll 668 = .ok (.iand, 1) := by decide +kernel
theorem dL_areAll_669 : decode cL_areAll 669 = .ok (.iconst 1, 1) := by decide +kernel
theorem dL_areAll_670 : decode cL_areAll 670 = .ok (.if_icmp .ne 111, 3) := by decide +kernel
theorem dL_areAll_673 : decode cL_areAll 673 = .ok (.aload_n 0, 1) := by decide +kernel
theorem dL_areAll_674 : decode cL_areAll 674 = .ok (.iload 15, 2) := by decide +kernel
theorem dL_areAll_676 : decode cL_areAll 676 = .ok (.iconst 2, 1) := by decide +kernel
theorem dL_areAll_677 : decode cL_areAll 677 = .ok (.invokevirtual 24, 3) := by decide +kernel
theorem dL_areAll_680 : decode cL_areAll 680 = .ok (.ifCond .le 101, 3) := by decide +kernel
theorem dL_areAll_683 : decode cL_areAll 683 = .ok (.iload 17, 2) := by decide +kernel
theorem dL_areAll_685 : decode cL_areAll 685 = .ok (.bipush (-6), 2) := by decide +kernel
theorem dL_areAll_687 : decode cL_areAll 687 = .ok (.if_icmp .ne 94, 3) := by decide +kernel
theorem dL_areAll_690 : decode cL_areAll 690 = .ok (.iload 17, 2) := by decide +kernel
theorem dL_areAll_692 : decode cL_areAll 692 = .ok (.bipush (-6), 2) := by decide +kernel
theorem dL_areAll_694 : decode cL_areAll 694 = .ok (.if_icmp .eq 15, 3) := by decide +kernel
theorem dL_areAll_697 : decode cL_areAll 697 = .ok (.iload 17, 2) := by decide +kernel
theorem dL_areAll_699 : decode cL_areAll 699 = .ok (.ifCond .le 82, 3) := by decide +kernel
theorem dL_areAll_702 : decode cL_areAll 702 = .ok (.iload 17, 2) := by decide +kernel
theorem dL_areAll_704 : decode cL_areAll 704 = .ok (.bipush 30, 2) := by decide +kernel
theorem dL_areAll_706 : decode cL_areAll 706 = .ok (.if_icmp .gt 75, 3) := by decide +kernel
theorem dL_areAll_709 : decode cL_areAll 709 = .ok (.iload 17, 2) := by decide +kernel
theorem dL_areAll_711 : decode cL_areAll 711 = .ok (.bipush (-6), 2) := by decide +kernel
theorem dL_areAll_713 : decode cL_areAll 713 = .ok (.if_icmp .eq 7, 3) := by decide +kernel
theorem dL_areAll_716 : decode cL_areAll 716 = .ok (.iconst 1, 1) := by decide +kernel
theorem dL_areAll_717 : decode cL_areAll 717 = .ok (.goto 4, 3) := by decide +kernel
theorem dL_areAll_720 : decode cL_areAll 720 = .ok (.iconst 0, 1) := by decide +kernel
theorem dL_areAll_721 : decode cL_areAll 721 = .ok (.iload 13, 2) := by decide +kernel
theorem dL_areAll_723 : decode cL_areAll 723 = .ok (.iload 15, 2) := by decide +kernel
theorem dL_areAll_725 : decode cL_areAll 725 = .ok (.ishr, 1) := by decide +kernel
theorem dL_areAll_726 : decode cL_areAll 726 = .ok (.iconst 1, 1) := by decide +kernel
theorem dL_areAll_727 : decode cL_areAll 727 = .ok (.iand, 1) := by decide +kernel
theorem dL_areAll_728 : decode cL_areAll 728 = .ok (.iconst 1, 1) := by decide +kernel
theorem dL_areAll_729 : decode cL_areAll 729 = .ok (.if_icmp .ne 7, 3) := by decide +kernel
theorem dL_areAll_732 : decode cL_areAll 732 = .ok (.iconst 1, 1) := by decide +kernel
theorem dL_areAll_733 : decode cL_areAll 733 = .ok (.goto 4, 3) := by decide +kernel
theorem dL_areAll_736 : decode cL_areAll 736 = .ok (.iconst 0, 1) := by decide +kernel
theorem dL_areAll_737 : decode cL_areAll 737 = .ok (.if_icmp .ne 44, 3) := by decide +kernel
theorem dL_areAll_740 : decode cL_areAll 740 = .ok (.aload_n 0, 1) := by decide +kernel
theorem dL_areAll_741 : decode cL_areAll 741 = .ok (.iload 15, 2) := by decide +kernel
theorem dL_areAll_743 : decode cL_areAll 743 = .ok (.bipush 6, 2) := by decide +kernel
theorem dL_areAll_745 : decode cL_areAll 745 = .ok (.invokevirtual 24, 3) := by decide +kernel
theorem dL_areAll_748 : decode cL_areAll 748 = .ok (.iload 11, 2) := by decide +kernel
theorem dL_areAll_750 : decode cL_areAll 750 = .ok (.ishr, 1) := by decide +kernel
theorem dL_areAll_751 : decode cL_areAll 751 = .ok (.iconst 1, 1) := by decide +kernel
theorem dL_areAll_752 : decode cL_areAll 752 = .ok (.iand, 1) := by decide +kernel
theorem dL_areAll_753 : decode cL_areAll 753 = .ok (.iconst 1, 1) := by decide +kernel
theorem dL_areAll_754 : decode cL_areAll 754 = .ok (.if_icmp .ne 7, 3) := by decide +kernel
theorem dL_areAll_757 : decode cL_areAll 757 = .ok (.iconst 1, 1) := by decide +kernel
theorem dL_areAll_758 : decode cL_areAll 758 = .ok (.goto 4, 3) := by decide +kernel
theorem dL_areAll_761 : decode cL_areAll 761 = .ok (.iconst 0, 1) := by decide +kernel
theorem dL_areAll_762 : decode cL_areAll 762 = .ok (.iload 17, 2) := by decide +kernel
theorem dL_areAll_764 : decode cL_areAll 764 = .ok (.bipush (-6), 2) := by decide +kernel
theorem dL_areAll_766 : decode cL_areAll 766 = .ok (.if_icmp .eq 7, 3) := by decide +kernel
theorem dL_areAll_769 : decode cL_areAll 769 = .ok (.iconst 1, 1) := by decide +kernel
theorem dL_areAll_770 : decode cL_areAll 770 = .ok (.goto 4, 3) := by decide +kernel
theorem dL_areAll_773 : decode cL_areAll 773 = .ok (.iconst 0, 1) := by decide +kernel
theorem dL_areAll_774 : decode cL_areAll 774 = .ok (.if_icmp .ne 7, 3) := by decide +kernel
theorem dL_areAll_777 : decode cL_areAll 777 = .ok (.iconst 1, 1) := by decide +kernel
theorem dL_areAll_778 : decode cL_areAll 778 = .ok (.goto 4, 3) := by decide +kernel
theorem dL_areAll_781 : decode cL_areAll 781 = .ok (.iconst 0, 1) := by decide +kernel
theorem dL_areAll_782 : decode cL_areAll 782 = .ok (.istore 6, 2) := by decide +kernel
theorem dL_areAll_784 : decode cL_areAll 784 = .ok (.iinc 15 1, 3) := by decide +kernel
theorem dL_areAll_787 : decode cL_areAll 787 = .ok (.goto (-274), 3) := by decide +kernel
theorem dL_areAll_790 : decode cL_areAll 790 = .ok (.iinc 11 1, 3) := by decide +kernel
theorem dL_areAll_793 : decode cL_areAll 793 = .ok (.goto (-505), 3) := by decide +kernel
theorem dL_areAll_796 : decode cL_areAll 796 = .ok (.iload 6, 2) := by decide +kernel
theorem dL_areAll_798 : decode cL_areAll 798 = .ok (.ifCond .eq 107, 3) := by decide +kernel
theorem dL_areAll_801 : decode cL_areAll 801 = .ok (.iload_n 1, 1) := by decide +kernel
theorem dL_areAll_802 : decode cL_areAll 802 = .ok (.aload_n 0, 1) := by decide +kernel
theorem dL_areAll_803 : decode cL_areAll 803 = .ok (.iconst 5, 1) := by decide +kernel
theorem dL_areAll_804 : decode cL_areAll 804 = .ok (.invokevirtual 14, 3) := by decide +kernel
theorem dL_areAll_807 : decode cL_areAll 807 = .ok (.if_icmp .ne 98, 3) := by decide +kernel
theorem dL_areAll_810 : decode cL_areAll 810 = .ok (.aload_n 0, 1) := by decide +kernel
theorem dL_areAll_811 : decode cL_areAll 811 = .ok (.bipush 6, 2) := by decide +kernel
theorem dL_areAll_813 : decode cL_areAll 813 = .ok (.invokevirtual 14, 3) := by decide +kernel
theorem dL_areAll_816 : decode cL_areAll 816 = .ok (.iload_n 1, 1) := by decide +kernel
theorem dL_areAll_817 : decode cL_areAll 817 = .ok (.aload_n 0, 1) := by decide +kernel
theorem dL_areAll_818 : decode cL_areAll 818 = .ok (.bipush 7, 2) := by decide +kernel
theorem dL_areAll_820 : decode cL_areAll 820 = .ok (.invokevirtual 14, 3) := by decide +kernel
theorem dL_areAll_823 : decode cL_areAll 823 = .ok (.iadd, 1) := by decide +kernel
theorem dL_areAll_824 : decode cL_areAll 824 = .ok (.aload_n 0, 1) := by decide +kernel
theorem dL_areAll_825 : decode cL_areAll 825 = .ok (.bipush 8, 2) := by decide +kernel
theorem dL_areAll_827 : decode cL_areAll 827 = .ok (.invokevirtual 14, 3) := by decide +kernel
theorem dL_areAll_830 : decode cL_areAll 830 = .ok (.iadd, 1) := by decide +kernel
theorem dL_areAll_831 : decode cL_areAll 831 = .ok (.if_icmp .ne 74, 3) := by decide +kernel
theorem dL_areAll_834 : decode cL_areAll 834 = .ok (.iload_n 2, 1) := by decide +kernel
theorem dL_areAll_835 : decode cL_areAll 835 = .ok (.aload_n 0, 1) := by decide +kernel
theorem dL_areAll_836 : decode cL_areAll 836 = .ok (.bipush 9, 2) := by decide +kernel
theorem dL_areAll_838 : decode cL_areAll 838 = .ok (.invokevirtual 14, 3) := by decide +kernel
theorem dL_areAll_841 : decode cL_areAll 841 = .ok (.if_icmp .ne 64, 3) := by decide +kernel
theorem dL_areAll_844 : decode cL_areAll 844 = .ok (.iload_n 3, 1) := by decide +kernel
theorem dL_areAll_845 : decode cL_areAll 845 = .ok (.aload_n 0, 1) := by decide +kernel
theorem dL_areAll_846 : decode cL_areAll 846 = .ok (.bipush 10, 2) := by decide +kernel
theorem dL_areAll_848 : decode cL_areAll 848 = .ok (.invokevirtual 14, 3) := by decide +kernel
theorem dL_areAll_851 : decode cL_areAll 851 = .ok (.if_icmp .ne 54, 3) := by decide +kernel
theorem dL_areAll_854 : decode cL_areAll 854 = .ok (.iload 5, 2) := by decide +kernel
theorem dL_areAll_856 : decode cL_areAll 856 = .ok (.aload_n 0, 1) := by decide +kernel
theorem dL_areAll_857 : decode cL_areAll 857 = .ok (.bipush 11, 2) := by decide +kernel
theorem dL_areAll_859 : decode cL_areAll 859 = .ok (.invokevirtual 14, 3) := by decide +kernel
theorem dL_areAll_862 : decode cL_areAll 862 = .ok (.if_icmp .ne 43, 3) := by decide +kernel
theorem dL_areAll_865 : decode cL_areAll 865 = .ok (.iload 10, 2) := by decide +kernel
theorem dL_areAll_867 : decode cL_areAll 867 = .ok (.iload 5, 2) := by decide +kernel
theorem dL_areAll_869 : decode cL_areAll 869 = .ok (.if_icmp .ne 36, 3) := by decide +kernel
theorem dL_areAll_872 : decode cL_areAll 872 = .ok (.iload 7, 2) := by decide +kernel
theorem dL_areAll_874 : decode cL_areAll 874 = .ok (.aload_n 0, 1) := by decide +kernel
theorem dL_areAll_875 : decode cL_areAll 875 = .ok (.bipush 12, 2) := by decide +kernel
theorem dL_areAll_877 : decode cL_areAll 877 = .ok (.invokevirtual 14, 3) := by decide +kernel
theorem dL_areAll_880 : decode cL_areAll 880 = .ok (.if_icmp .ne 25, 3) := by decide +kernel
theorem dL_areAll_883 : decode cL_areAll 883 = .ok (.iload 8, 2) := by decide +kernel
theorem dL_areAll_885 : decode cL_areAll 885 = .ok (.aload_n 0, 1) := by decide +kernel
theorem dL_areAll_886 : decode cL_areAll 886 = .ok (.bipush 13, 2) := by decide +kernel
theorem dL_areAll_888 : decode cL_areAll 888 = .ok (.invokevirtual 14, 3) := by decide +kernel
theorem dL_areAll_891 : decode cL_areAll 891 = .ok (.if_icmp .ne 14, 3) := by decide +kernel
theorem dL_areAll_894 : decode cL_areAll 894 = .ok (.iload 9, 2) := by decide +kernel
theorem dL_areAll_896 : decode cL_areAll 896 = .ok (.iload 4, 2) := by decide +kernel
theorem dL_areAll_898 : decode cL_areAll 898 = .ok (.if_icmp .ne 7, 3) := by decide +kernel
theorem dL_areAll_901 : decode cL_areAll 901 = .ok (.iconst 1, 1) := by decide +kernel
theorem dL_areAll_902 : decode cL_areAll 902 = .ok (.goto 4, 3) := by decide +kernel
theorem dL_areAll_905 : decode cL_areAll 905 = .ok (.iconst 0, 1) := by decide +kernel
theorem dL_areAll_906 : decode cL_areAll 906 = .ok (.ireturn, 1) := by decide +kernel
set_option maxRecDepth 20000 in
theorem ggL_refusesAny_X4_count : GoodIn wsL_refusesAny wsX4_count := goodIn_r _ [5, 6, 7, 8, 9, 10, 11, 12, 13, 14, 15, 16, 17, 18, 19, 20, 21, 22, 4, 23, 24, 25, 26, 27, 28, 29, 30, 31, 32, 33, 34, 35, 36, 37, 38, 39, 40, 41, 42, 43, 44, 45, 46, 309, 310, 311, 312, 313, 314, 315, 316, 317, 318, 319, 320, 321, 322, 323, 324, 325, 326, 327, 328, 329, 330, 331] (by decide +kernel) (by decide +kernel)
set_option maxRecDepth 20000 in
theorem gL_refusesAny_X4_count : GoodIn wsL_refusesAny (wsV RL 14 RX4 yX4_count wsX4_count) := goodIn_app (goodIn_of _ (by decide +kernel)) ggL_refusesAny_X4_count
set_option maxRecDepth 20000 in
theorem ggL_refusesAny_X4_set : GoodIn wsL_refusesAny wsX4_set := goodIn_r _ [50, 51, 52, 19, 6, 7, 53, 54, 55, 56, 57, 58, 59, 60, 61, 62, 63, 64, 65, 66, 27, 67, 68, 69, 70, 71, 72, 73, 74, 75, 37, 76, 77, 78, 79, 80, 81, 82, 4, 83, 309, 310, 311, 312, 313, 314, 315, 316, 317, 318, 319, 320, 321, 322, 323, 324, 325, 326, 327, 330, 331] (by decide +kernel) (by decide +kernel)
set_option maxRecDepth 20000 in
theorem gL_refusesAny_X4_set : GoodIn wsL_refusesAny (wsV RL 47 RX4 yX4_set wsX4_set) := goodIn_app (goodIn_of _ (by decide +kernel)) ggL_refusesAny_X4_set
set_option maxRecDepth 20000 in
theorem ggL_refusesAny_X4_brim : GoodIn wsL_refusesAny wsX4_brim := goodIn_r _ [87, 19, 6, 88, 89, 90, 4, 91, 53, 54, 55, 56, 57, 58, 59, 60, 61, 62, 63, 64, 65, 66, 27, 67, 68, 69, 70, 71, 72, 73, 74, 75, 37, 76, 77, 78, 79, 80, 81, 82, 83, 92, 93, 94, 95, 309, 310, 311, 312, 313, 314, 315, 316, 317, 318, 319, 320, 321, 322, 323, 324, 325, 326, 327, 330, 331] (by decide +kernel) (by decide +kernel)
set_option maxRecDepth 20000 in
theorem gL_refusesAny_X4_brim : GoodIn wsL_refusesAny (wsV RL 50 RX4 yX4_brim wsX4_brim) := goodIn_app (goodIn_of _ (by decide +kernel)) ggL_refusesAny_X4_brim
set_option maxRecDepth 20000 in
theorem ggL_refusesAny_X4_drain : GoodIn wsL_refusesAny wsX4_drain := goodIn_r _ [99, 6, 19, 9, 89, 90, 4, 91, 100, 101, 102, 27, 103, 77, 104, 105, 53, 54, 55, 56, 57, 58, 59, 60, 61, 62, 63, 64, 65, 66, 67, 68, 69, 70, 71, 72, 73, 74, 75, 37, 76, 78, 79, 80, 81, 82, 83, 92, 93, 94, 95, 106, 107, 108, 109, 309, 310, 311, 312, 313, 314, 315, 316, 317, 318, 319, 320, 321, 322, 323, 324, 325, 326, 327, 330, 331] (by decide +kernel) (by decide +kernel)
set_option maxRecDepth 20000 in
theorem gL_refusesAny_X4_drain : GoodIn wsL_refusesAny (wsV RL 53 RX4 yX4_drain wsX4_drain) := goodIn_app (goodIn_of _ (by decide +kernel)) ggL_refusesAny_X4_drain
set_option maxRecDepth 20000 in
theorem ggL_refusesAny_X4_permit : GoodIn wsL_refusesAny wsX4_permit := goodIn_r _ [113, 6, 19, 114, 7, 115, 116, 4, 117, 89, 90, 91, 100, 101, 102, 27, 103, 77, 104, 105, 53, 54, 55, 56, 57, 58, 59, 60, 61, 62, 63, 64, 65, 66, 67, 68, 69, 70, 71, 72, 73, 74, 75, 37, 76, 78, 79, 80, 81, 82, 83, 118, 38, 39, 119, 30, 31, 32, 33, 34, 35, 36, 120, 41, 42, 43, 44, 45, 46, 309, 310, 311, 312, 313, 314, 315, 316, 317, 318, 319, 320, 321, 322, 323, 324, 325, 326, 327, 330, 331] (by decide +kernel) (by decide +kernel)
set_option maxRecDepth 20000 in
theorem gL_refusesAny_X4_permit : GoodIn wsL_refusesAny (wsV RL 56 RX4 yX4_permit wsX4_permit) := goodIn_app (goodIn_of _ (by decide +kernel)) ggL_refusesAny_X4_permit
set_option maxRecDepth 20000 in
theorem ggL_refusesAny_X4_shoes : GoodIn wsL_refusesAny wsX4_shoes := goodIn_r _ [124, 19, 6, 125, 115, 116, 4, 117, 53, 54, 55, 56, 57, 58, 59, 60, 61, 62, 63, 64, 65, 66, 27, 67, 68, 69, 70, 71, 72, 73, 74, 75, 37, 76, 77, 78, 79, 80, 81, 82, 83, 309, 310, 311, 312, 313, 314, 315, 316, 317, 318, 319, 320, 321, 322, 323, 324, 325, 326, 327, 330, 331] (by decide +kernel) (by decide +kernel)
set_option maxRecDepth 20000 in
theorem gL_refusesAny_X4_shoes : GoodIn wsL_refusesAny (wsV RL 59 RX4 yX4_shoes wsX4_shoes) := goodIn_app (goodIn_of _ (by decide +kernel)) ggL_refusesAny_X4_shoes
set_option maxRecDepth 20000 in
theorem ggL_refusesAny_X4_walk : GoodIn wsL_refusesAny wsX4_walk := goodIn_r _ [129, 19, 6, 115, 116, 4, 117, 89, 90, 91, 53, 54, 55, 56, 57, 58, 59, 60, 61, 62, 63, 64, 65, 66, 27, 67, 68, 69, 70, 71, 72, 73, 74, 75, 37, 76, 77, 78, 79, 80, 81, 82, 83, 130, 131, 132, 133, 134, 135, 136, 137, 138, 139, 140, 141, 142, 143, 144, 145, 146, 147, 148, 101, 102, 103, 104, 105, 33, 34, 35, 36, 38, 39, 149, 150, 151, 152, 153, 154, 155, 156, 157, 158, 159, 160, 161, 162, 163, 164, 165, 166, 167, 168, 309, 310, 311, 312, 330, 331, 313, 314, 315, 316, 317, 318, 319, 320, 321, 322, 323, 324, 325, 326, 327] (by decide +kernel) (by decide +kernel)
set_option maxRecDepth 20000 in
theorem gL_refusesAny_X4_walk : GoodIn wsL_refusesAny (wsV RL 62 RX4 yX4_walk wsX4_walk) := goodIn_app (goodIn_of _ (by decide +kernel)) ggL_refusesAny_X4_walk
set_option maxRecDepth 20000 in
theorem ggL_refusesAny_X4_pay : GoodIn wsL_refusesAny wsX4_pay := goodIn_r _ [172, 19, 6, 15, 16, 115, 116, 4, 117, 53, 54, 55, 56, 57, 58, 59, 60, 61, 62, 63, 64, 65, 66, 27, 67, 68, 69, 70, 71, 72, 73, 74, 75, 37, 76, 77, 78, 79, 80, 81, 82, 83, 309, 310, 311, 312, 313, 314, 315, 316, 317, 318, 319, 320, 321, 322, 323, 324, 325, 326, 327, 330, 331] (by decide +kernel) (by decide +kernel)
set_option maxRecDepth 20000 in
theorem gL_refusesAny_X4_pay : GoodIn wsL_refusesAny (wsV RL 66 RX4 yX4_pay wsX4_pay) := goodIn_app (goodIn_of _ (by decide +kernel)) ggL_refusesAny_X4_pay
set_option maxRecDepth 20000 in
theorem ggL_refusesAny_X4_pass : GoodIn wsL_refusesAny wsX4_pass := goodIn_r _ [176, 6, 8, 19, 9, 53, 54, 55, 56, 57, 58, 59, 60, 61, 62, 63, 64, 65, 66, 27, 67, 68, 69, 70, 71, 72, 73, 74, 75, 37, 76, 77, 78, 79, 80, 81, 82, 4, 83, 177, 178, 179, 180, 181, 182, 183, 184, 185, 186, 136, 187, 153, 154, 155, 156, 104, 105, 188, 189, 190, 191, 149, 150, 151, 152, 192, 193, 194, 195, 196, 197, 198, 199, 38, 39, 200, 201, 202, 203, 21, 22, 23, 309, 310, 311, 312, 313, 314, 315, 316, 317, 318, 319, 320, 321, 322, 323, 324, 325, 326, 327, 330, 331] (by decide +kernel) (by decide +kernel)
set_option maxRecDepth 20000 in
theorem gL_refusesAny_X4_pass : GoodIn wsL_refusesAny (wsV RL 69 RX4 yX4_pass wsX4_pass) := goodIn_app (goodIn_of _ (by decide +kernel)) ggL_refusesAny_X4_pass
set_option maxRecDepth 20000 in
theorem ggL_refusesAny_X4_puddle : GoodIn wsL_refusesAny wsX4_puddle := goodIn_r _ [207, 6, 88, 9, 208, 89, 90, 4, 91, 209, 150, 151, 27, 152, 70, 210, 154, 155, 156, 76, 104, 105, 100, 101, 102, 103, 77, 211, 212, 213, 214, 33, 34, 35, 36, 37, 38, 39, 309, 310, 311, 312, 313, 314, 315, 316, 317, 318, 319, 320, 321, 322, 323, 324, 325, 326, 327] (by decide +kernel) (by decide +kernel)
set_option maxRecDepth 20000 in
theorem gL_refusesAny_X4_puddle : GoodIn wsL_refusesAny (wsV RL 24 RX4 yX4_puddle wsX4_puddle) := goodIn_app (goodIn_of _ (by decide +kernel)) ggL_refusesAny_X4_puddle
set_option maxRecDepth 20000 in
theorem ggL_refusesAny_X4_walker : GoodIn wsL_refusesAny wsX4_walker := goodIn_r _ [218, 6, 125, 15, 16, 219, 115, 116, 4, 117, 119, 30, 31, 27, 32, 33, 34, 35, 36, 37, 38, 39, 220, 221, 222, 223, 140, 141, 142, 143, 72, 144, 145, 146, 147, 148, 101, 102, 103, 77, 104, 105, 149, 150, 151, 152, 70, 153, 154, 155, 156, 76, 157, 158, 159, 309, 310, 311, 312, 313, 314, 315, 316, 317, 318, 319, 320, 321, 322, 323, 324, 325, 326, 327] (by decide +kernel) (by decide +kernel)
set_option maxRecDepth 20000 in
theorem gL_refusesAny_X4_walker : GoodIn wsL_refusesAny (wsV RL 27 RX4 yX4_walker wsX4_walker) := goodIn_app (goodIn_of _ (by decide +kernel)) ggL_refusesAny_X4_walker
set_option maxRecDepth 20000 in
theorem ggL_refusesAny_X4_why : GoodIn wsL_refusesAny wsX4_why := goodIn_r _ [227, 6, 125, 115, 116, 4, 117, 89, 90, 91, 228, 145, 146, 27, 147, 148, 101, 102, 103, 77, 104, 105, 33, 34, 35, 36, 37, 38, 39, 149, 150, 151, 152, 70, 153, 154, 155, 156, 76, 157, 158, 159, 309, 310, 311, 312, 313, 314, 315, 316, 317, 318, 319, 320, 321, 322, 323, 324, 325, 326, 327] (by decide +kernel) (by decide +kernel)
set_option maxRecDepth 20000 in
theorem gL_refusesAny_X4_why : GoodIn wsL_refusesAny (wsV RL 44 RX4 yX4_why wsX4_why) := goodIn_app (goodIn_of _ (by decide +kernel)) ggL_refusesAny_X4_why
set_option maxRecDepth 20000 in
theorem ggL_refusesAny_X4_holds : GoodIn wsL_refusesAny wsX4_holds := goodIn_r _ [232, 6, 114, 115, 116, 4, 117, 89, 90, 91, 118, 38, 39, 309, 310, 311, 312, 313, 314, 315, 316, 317, 318, 319, 320, 321, 322, 323, 324, 325, 326, 327] (by decide +kernel) (by decide +kernel)
set_option maxRecDepth 20000 in
theorem gL_refusesAny_X4_holds : GoodIn wsL_refusesAny (wsV RL 20 RX4 yX4_holds wsX4_holds) := goodIn_app (goodIn_of _ (by decide +kernel)) ggL_refusesAny_X4_holds
set_option maxRecDepth 20000 in
theorem ggL_refusesAny_X4_cost : GoodIn wsL_refusesAny wsX4_cost := goodIn_r _ [236, 6, 115, 116, 4, 117, 89, 90, 91, 237, 238, 239, 27, 240, 134, 135, 136, 137, 138, 139, 140, 141, 142, 143, 72, 144, 145, 146, 147, 148, 101, 102, 103, 77, 104, 105, 33, 34, 35, 36, 37, 38, 39, 149, 150, 151, 152, 70, 153, 154, 155, 156, 76, 157, 158, 159, 165, 166, 167, 168, 68, 241, 242, 243, 244, 245, 131, 132, 133, 309, 310, 311, 312, 313, 314, 315, 316, 317, 318, 319, 320, 321, 322, 323, 324, 325, 326, 327] (by decide +kernel) (by decide +kernel)
set_option maxRecDepth 20000 in
theorem gL_refusesAny_X4_cost : GoodIn wsL_refusesAny (wsV RL 72 RX4 yX4_cost wsX4_cost) := goodIn_app (goodIn_of _ (by decide +kernel)) ggL_refusesAny_X4_cost
set_option maxRecDepth 20000 in
theorem ggL_refusesAny_X4_untilDry : GoodIn wsL_refusesAny wsX4_untilDry := goodIn_r _ [249, 6, 9, 7, 89, 90, 4, 91, 210, 154, 155, 27, 156, 76, 104, 105, 309, 310, 311, 312, 313, 314, 315, 316, 317, 318, 319, 320, 321, 322, 323, 324, 325, 326, 327] (by decide +kernel) (by decide +kernel)
set_option maxRecDepth 20000 in
theorem gL_refusesAny_X4_untilDry : GoodIn wsL_refusesAny (wsV RL 35 RX4 yX4_untilDry wsX4_untilDry) := goodIn_app (goodIn_of _ (by decide +kernel)) ggL_refusesAny_X4_untilDry
set_option maxRecDepth 20000 in
theorem ggL_refusesAny_X4_leastShoes : GoodIn wsL_refusesAny wsX4_leastShoes := goodIn_r _ [253, 6, 115, 116, 4, 117, 254, 255, 256, 27, 257, 144, 145, 146, 147, 148, 101, 102, 103, 77, 104, 105, 33, 34, 35, 36, 37, 38, 39, 149, 150, 151, 152, 70, 153, 154, 155, 156, 76, 157, 158, 159, 309, 310, 311, 312, 313, 314, 315, 316, 317, 318, 319, 320, 321, 322, 323, 324, 325, 326, 327] (by decide +kernel) (by decide +kernel)
set_option maxRecDepth 20000 in
theorem gL_refusesAny_X4_leastShoes : GoodIn wsL_refusesAny (wsV RL 38 RX4 yX4_leastShoes wsX4_leastShoes) := goodIn_app (goodIn_of _ (by decide +kernel)) ggL_refusesAny_X4_leastShoes
set_option maxRecDepth 20000 in
theorem ggL_refusesAny_X4_longestWalk : GoodIn wsL_refusesAny wsX4_longestWalk := goodIn_r _ [261, 6, 115, 116, 4, 117, 220, 221, 222, 27, 223, 140, 141, 142, 143, 72, 144, 145, 146, 147, 148, 101, 102, 103, 77, 104, 105, 33, 34, 35, 36, 37, 38, 39, 149, 150, 151, 152, 70, 153, 154, 155, 156, 76, 157, 158, 159, 262, 309, 310, 311, 312, 313, 314, 315, 316, 317, 318, 319, 320, 321, 322, 323, 324, 325, 326, 327] (by decide +kernel) (by decide +kernel)
set_option maxRecDepth 20000 in
theorem gL_refusesAny_X4_longestWalk : GoodIn wsL_refusesAny (wsV RL 41 RX4 yX4_longestWalk wsX4_longestWalk) := goodIn_app (goodIn_of _ (by decide +kernel)) ggL_refusesAny_X4_longestWalk
set_option maxRecDepth 20000 in
theorem ggL_refusesAny_X4_save : GoodIn wsL_refusesAny wsX4_save := goodIn_r _ [266, 267, 268, 6, 269, 8, 270, 65, 66, 27, 67, 68, 69, 70, 71, 72, 73, 74, 75, 37, 76, 77, 78, 79, 80, 81, 82, 4, 83, 309, 310, 311, 312, 332, 333, 313, 314, 315, 316, 317, 318, 319, 320, 321, 322, 323, 324, 325, 326, 327] (by decide +kernel) (by decide +kernel)
set_option maxRecDepth 20000 in
theorem gL_refusesAny_X4_save : GoodIn wsL_refusesAny (wsV RL 76 RX4 yX4_save wsX4_save) := goodIn_app (goodIn_of _ (by decide +kernel)) ggL_refusesAny_X4_save
set_option maxRecDepth 20000 in
theorem ggL_refusesAny_X4_restore : GoodIn wsL_refusesAny wsX4_restore := goodIn_r _ [274, 267, 269, 19, 6, 268, 8, 53, 54, 55, 56, 57, 58, 59, 60, 61, 62, 63, 64, 65, 66, 27, 67, 68, 69, 70, 71, 72, 73, 74, 75, 37, 76, 77, 78, 79, 80, 81, 82, 4, 83, 270, 309, 310, 311, 312, 332, 333, 313, 314, 315, 316, 317, 318, 319, 320, 321, 322, 323, 324, 325, 326, 327, 330, 331] (by decide +kernel) (by decide +kernel)
set_option maxRecDepth 20000 in
theorem gL_refusesAny_X4_restore : GoodIn wsL_refusesAny (wsV RL 79 RX4 yX4_restore wsX4_restore) := goodIn_app (goodIn_of _ (by decide +kernel)) ggL_refusesAny_X4_restore
set_option maxRecDepth 20000 in
theorem ggL_refusesAny_X4_wipe : GoodIn wsL_refusesAny wsX4_wipe := goodIn_r _ [278, 17, 18, 309, 310, 311, 312, 328, 329] (by decide +kernel) (by decide +kernel)
set_option maxRecDepth 20000 in
theorem gL_refusesAny_X4_wipe : GoodIn wsL_refusesAny (wsV RL 82 RX4 yX4_wipe wsX4_wipe) := goodIn_app (goodIn_of _ (by decide +kernel)) ggL_refusesAny_X4_wipe
set_option maxRecDepth 20000 in
theorem ggL_refusesAny_X4_read : GoodIn wsL_refusesAny wsX4_read := goodIn_r _ [282, 17, 6, 8, 19, 18, 9, 283, 284, 285, 286, 287, 288, 289, 290, 291, 292, 293, 294, 295, 296, 297, 298, 299, 300, 301, 302, 303, 53, 54, 55, 56, 57, 58, 59, 60, 61, 62, 63, 64, 65, 66, 27, 67, 68, 69, 70, 71, 72, 73, 74, 75, 37, 76, 77, 78, 79, 80, 81, 82, 4, 83, 304, 177, 178, 179, 180, 181, 182, 183, 184, 185, 186, 136, 187, 153, 154, 155, 156, 104, 105, 188, 189, 190, 191, 149, 150, 151, 152, 192, 193, 194, 195, 196, 197, 198, 199, 38, 39, 200, 201, 202, 203, 21, 22, 23, 309, 310, 311, 312, 313, 314, 315, 316, 317, 318, 319, 320, 321, 322, 323, 324, 325, 326, 327, 328, 329, 330, 331] (by decide +kernel) (by decide +kernel)
set_option maxRecDepth 20000 in
theorem gL_refusesAny_X4_read : GoodIn wsL_refusesAny (wsV RL 86 RX4 yX4_read wsX4_read) := goodIn_app (goodIn_of _ (by decide +kernel)) ggL_refusesAny_X4_read
set_option maxRecDepth 20000 in
theorem ggL_refusesAny_X4_fault : GoodIn wsL_refusesAny wsX4_fault := goodIn_r _ [308, 17, 283, 284, 285, 286, 287, 288, 289, 290, 291, 292, 293, 294, 295, 309, 310, 311, 312, 328, 329] (by decide +kernel) (by decide +kernel)
set_option maxRecDepth 20000 in
theorem gL_refusesAny_X4_fault : GoodIn wsL_refusesAny (wsV RL 89 RX4 yX4_fault wsX4_fault) := goodIn_app (goodIn_of _ (by decide +kernel)) ggL_refusesAny_X4_fault
theorem dL_refusesAny_0 : decode cL_refusesAny 0 = .ok (.iload_n 1, 1) := by decide +kernel
theorem dL_refusesAny_1 : decode cL_refusesAny 1 = .ok (.iconst 2, 1) := by decide +kernel
theorem dL_refusesAny_2 : decode cL_refusesAny 2 = .ok (.irem, 1) := by decide +kernel
theorem dL_refusesAny_3 : decode cL_refusesAny 3 = .ok (.ifCond .ne 12, 3) := by decide +kernel
theorem dL_refusesAny_6 : decode cL_refusesAny 6 = .ok (.iconst (-1), 1) := by decide +kernel
theorem dL_refusesAny_7 : decode cL_refusesAny 7 = .ok (.iload_n 1, 1) := by decide +kernel
theorem dL_refusesAny_8 : decode cL_refusesAny 8 = .ok (.bipush 99, 2) := by decide +kernel
theorem dL_refusesAny_10 : decode cL_refusesAny 10 = .ok (.irem, 1) := by decide +kernel
theorem dL_refusesAny_11 : decode cL_refusesAny 11 = .ok (.isub, 1) := by decide +kernel
theorem dL_refusesAny_12 : decode cL_refusesAny 12 = .ok (.goto 10, 3) := by decide +kernel
theorem dL_refusesAny_15 : decode cL_refusesAny 15 = .ok (.bipush 12, 2) := by decide +kernel
theorem dL_refusesAny_17 : decode cL_refusesAny 17 = .ok (.iload_n 1, 1) := by decide +kernel
theorem dL_refusesAny_18 : decode cL_refusesAny 18 = .ok (.bipush 99, 2) := by decide +kernel
theorem dL_refusesAny_20 : decode cL_refusesAny 20 = .ok (.irem, 1) := by decide +kernel
theorem dL_refusesAny_21 : decode cL_refusesAny 21 = .ok (.iadd, 1) := by decide +kernel
theorem dL_refusesAny_22 : decode cL_refusesAny 22 = .ok (.istore_n 2, 1) := by decide +kernel
theorem dL_refusesAny_23 : decode cL_refusesAny 23 = .ok (.iload_n 1, 1) := by decide +kernel
theorem dL_refusesAny_24 : decode cL_refusesAny 24 = .ok (.iconst 2, 1) := by decide +kernel
theorem dL_refusesAny_25 : decode cL_refusesAny 25 = .ok (.irem, 1) := by decide +kernel
theorem dL_refusesAny_26 : decode cL_refusesAny 26 = .ok (.ifCond .ne 12, 3) := by decide +kernel
theorem dL_refusesAny_29 : decode cL_refusesAny 29 = .ok (.iconst (-1), 1) := by decide +kernel
theorem dL_refusesAny_30 : decode cL_refusesAny 30 = .ok (.iload_n 1, 1) := by decide +kernel
theorem dL_refusesAny_31 : decode cL_refusesAny 31 = .ok (.bipush 99, 2) := by decide +kernel
theorem dL_refusesAny_33 : decode cL_refusesAny 33 = .ok (.irem, 1) := by decide +kernel
theorem dL_refusesAny_34 : decode cL_refusesAny 34 = .ok (.isub, 1) := by decide +kernel
theorem dL_refusesAny_35 : decode cL_refusesAny 35 = .ok (.goto 10, 3) := by decide +kernel
theorem dL_refusesAny_38 : decode cL_refusesAny 38 = .ok (.bipush 6, 2) := by decide +kernel
theorem dL_refusesAny_40 : decode cL_refusesAny 40 = .ok (.iload_n 1, 1) := by decide +kernel
theorem dL_refusesAny_41 : decode cL_refusesAny 41 = .ok (.bipush 99, 2) := by decide +kernel
theorem dL_refusesAny_43 : decode cL_refusesAny 43 = .ok (.irem, 1) := by decide +kernel
theorem dL_refusesAny_44 : decode cL_refusesAny 44 = .ok (.iadd, 1) := by decide +kernel
theorem dL_refusesAny_45 : decode cL_refusesAny 45 = .ok (.istore_n 3, 1) := by decide +kernel
theorem dL_refusesAny_46 : decode cL_refusesAny 46 = .ok (.iload_n 1, 1) := by decide +kernel
theorem dL_refusesAny_47 : decode cL_refusesAny 47 = .ok (.bipush 12, 2) := by decide +kernel
theorem dL_refusesAny_49 : decode cL_refusesAny 49 = .ok (.irem, 1) := by decide +kernel
theorem dL_refusesAny_50 : decode cL_refusesAny 50 = .ok (.istore 4, 2) := by decide +kernel
theorem dL_refusesAny_52 : decode cL_refusesAny 52 = .ok (.aload_n 0, 1) := by decide +kernel
theorem dL_refusesAny_53 : decode cL_refusesAny 53 = .ok (.bipush 10, 2) := by decide +kernel
theorem dL_refusesAny_55 : decode cL_refusesAny 55 = .ok (.invokevirtual 14, 3) := by decide +kernel
theorem dL_refusesAny_58 : decode cL_refusesAny 58 = .ok (.iload 4, 2) := by decide +kernel
theorem dL_refusesAny_60 : decode cL_refusesAny 60 = .ok (.ishr, 1) := by decide +kernel
theorem dL_refusesAny_61 : decode cL_refusesAny 61 = .ok (.iconst 1, 1) := by decide +kernel
theorem dL_refusesAny_62 : decode cL_refusesAny 62 = .ok (.iand, 1) := by decide +kernel
theorem dL_refusesAny_63 : decode cL_refusesAny 63 = .ok (.iconst 1, 1) := by decide +kernel
theorem dL_refusesAny_64 : decode cL_refusesAny 64 = .ok (.if_icmp .ne 7, 3) := by decide +kernel
theorem dL_refusesAny_67 : decode cL_refusesAny 67 = .ok (.iconst 1, 1) := by decide +kernel
theorem dL_refusesAny_68 : decode cL_refusesAny 68 = .ok (.goto 4, 3) := by decide +kernel
theorem dL_refusesAny_71 : decode cL_refusesAny 71 = .ok (.iconst 0, 1) := by decide +kernel
theorem dL_refusesAny_72 : decode cL_refusesAny 72 = .ok (.istore 5, 2) := by decide +kernel
theorem dL_refusesAny_74 : decode cL_refusesAny 74 = .ok (.aload_n 0, 1) := by decide +kernel
theorem dL_refusesAny_75 : decode cL_refusesAny 75 = .ok (.iload_n 1, 1) := by decide +kernel
theorem dL_refusesAny_76 : decode cL_refusesAny 76 = .ok (.iconst 2, 1) := by decide +kernel
theorem dL_refusesAny_77 : decode cL_refusesAny 77 = .ok (.irem, 1) := by decide +kernel
theorem dL_refusesAny_78 : decode cL_refusesAny 78 = .ok (.ifCond .ne 7, 3) := by decide +kernel
theorem dL_refusesAny_81 : decode cL_refusesAny 81 = .ok (.iconst (-1), 1) := by decide +kernel
theorem dL_refusesAny_82 : decode cL_refusesAny 82 = .ok (.goto 4, 3) := by decide +kernel
theorem dL_refusesAny_85 : decode cL_refusesAny 85 = .ok (.iconst 4, 1) := by decide +kernel
theorem dL_refusesAny_86 : decode cL_refusesAny 86 = .ok (.iconst 5, 1) := by decide +kernel
theorem dL_refusesAny_87 : decode cL_refusesAny 87 = .ok (.invokevirtual 47, 3) := by decide +kernel
theorem dL_refusesAny_90 : decode cL_refusesAny 90 = .ok (.bipush (-2), 2) := by decide +kernel
theorem dL_refusesAny_92 : decode cL_refusesAny 92 = .ok (.if_icmp .ne 280, 3) := by decide +kernel
theorem dL_refusesAny_95 : decode cL_refusesAny 95 = .ok (.aload_n 0, 1) := by decide +kernel
theorem dL_refusesAny_96 : decode cL_refusesAny 96 = .ok (.iconst 0, 1) := by decide +kernel
theorem dL_refusesAny_97 : decode cL_refusesAny 97 = .ok (.iload_n 1, 1) := by decide +kernel
theorem dL_refusesAny_98 : decode cL_refusesAny 98 = .ok (.iconst 2, 1) := by decide +kernel
theorem dL_refusesAny_99 : decode cL_refusesAny 99 = .ok (.irem, 1) := by decide +kernel
theorem dL_refusesAny_100 : decode cL_refusesAny 100 = .ok (.ifCond .ne 7, 3) := by decide +kernel
theorem dL_refusesAny_103 : decode cL_refusesAny 103 = .ok (.iconst (-1), 1) := by decide +kernel
theorem dL_refusesAny_104 : decode cL_refusesAny 104 = .ok (.goto 5, 3) := by decide +kernel
theorem dL_refusesAny_107 : decode cL_refusesAny 107 = .ok (.bipush 21, 2) := by decide +kernel
theorem dL_refusesAny_109 : decode cL_refusesAny 109 = .ok (.invokevirtual 47, 3) := by decide +kernel
theorem dL_refusesAny_112 : decode cL_refusesAny 112 = .ok (.bipush (-2), 2) := by decide +kernel
theorem dL_refusesAny_114 : decode cL_refusesAny 114 = .ok (.if_icmp .ne 258, 3) := by decide +kernel
theorem dL_refusesAny_117 : decode cL_refusesAny 117 = .ok (.aload_n 0, 1) := by decide +kernel
theorem dL_refusesAny_118 : decode cL_refusesAny 118 = .ok (.iconst 1, 1) := by decide +kernel
theorem dL_refusesAny_119 : decode cL_refusesAny 119 = .ok (.iload_n 1, 1) := by decide +kernel
theorem dL_refusesAny_120 : decode cL_refusesAny 120 = .ok (.iconst 2, 1) := by decide +kernel
theorem dL_refusesAny_121 : decode cL_refusesAny 121 = .ok (.irem, 1) := by decide +kernel
theorem dL_refusesAny_122 : decode cL_refusesAny 122 = .ok (.ifCond .ne 7, 3) := by decide +kernel
theorem dL_refusesAny_125 : decode cL_refusesAny 125 = .ok (.iconst (-1), 1) := by decide +kernel
theorem dL_refusesAny_126 : decode cL_refusesAny 126 = .ok (.goto 5, 3) := by decide +kernel
theorem dL_refusesAny_129 : decode cL_refusesAny 129 = .ok (.bipush 21, 2) := by decide +kernel
theorem dL_refusesAny_131 : decode cL_refusesAny 131 = .ok (.invokevirtual 47, 3) := by decide +kernel
theorem dL_refusesAny_134 : decode cL_refusesAny 134 = .ok (.bipush (-2), 2) := by decide +kernel
theorem dL_refusesAny_136 : decode cL_refusesAny 136 = .ok (.if_icmp .ne 236, 3) := by decide +kernel
theorem dL_refusesAny_139 : decode cL_refusesAny 139 = .ok (.aload_n 0, 1) := by decide +kernel
theorem dL_refusesAny_140 : decode cL_refusesAny 140 = .ok (.iconst 2, 1) := by decide +kernel
theorem dL_refusesAny_141 : decode cL_refusesAny 141 = .ok (.iload_n 1, 1) := by decide +kernel
theorem dL_refusesAny_142 : decode cL_refusesAny 142 = .ok (.iconst 2, 1) := by decide +kernel
theorem dL_refusesAny_143 : decode cL_refusesAny 143 = .ok (.irem, 1) := by decide +kernel
theorem dL_refusesAny_144 : decode cL_refusesAny 144 = .ok (.ifCond .ne 7, 3) := by decide +kernel
theorem dL_refusesAny_147 : decode cL_refusesAny 147 = .ok (.iconst 0, 1) := by decide +kernel
theorem dL_refusesAny_148 : decode cL_refusesAny 148 = .ok (.goto 5, 3) := by decide +kernel
theorem dL_refusesAny_151 : decode cL_refusesAny 151 = .ok (.bipush 100, 2) := by decide +kernel
theorem dL_refusesAny_153 : decode cL_refusesAny 153 = .ok (.invokevirtual 47, 3) := by decide +kernel
theorem dL_refusesAny_156 : decode cL_refusesAny 156 = .ok (.bipush (-2), 2) := by decide +kernel
theorem dL_refusesAny_158 : decode cL_refusesAny 158 = .ok (.if_icmp .ne 214, 3) := by decide +kernel
theorem dL_refusesAny_161 : decode cL_refusesAny 161 = .ok (.aload_n 0, 1) := by decide +kernel
theorem dL_refusesAny_162 : decode cL_refusesAny 162 = .ok (.iconst 3, 1) := by decide +kernel
theorem dL_refusesAny_163 : decode cL_refusesAny 163 = .ok (.iload_n 1, 1) := by decide +kernel
theorem dL_refusesAny_164 : decode cL_refusesAny 164 = .ok (.iconst 2, 1) := by decide +kernel
theorem dL_refusesAny_165 : decode cL_refusesAny 165 = .ok (.irem, 1) := by decide +kernel
theorem dL_refusesAny_166 : decode cL_refusesAny 166 = .ok (.ifCond .ne 7, 3) := by decide +kernel
theorem dL_refusesAny_169 : decode cL_refusesAny 169 = .ok (.iconst 0, 1) := by decide +kernel
theorem dL_refusesAny_170 : decode cL_refusesAny 170 = .ok (.goto 5, 3) := by decide +kernel
theorem dL_refusesAny_173 : decode cL_refusesAny 173 = .ok (.bipush 31, 2) := by decide +kernel
theorem dL_refusesAny_175 : decode cL_refusesAny 175 = .ok (.invokevirtual 47, 3) := by decide +kernel
theorem dL_refusesAny_178 : decode cL_refusesAny 178 = .ok (.bipush (-2), 2) := by decide +kernel
theorem dL_refusesAny_180 : decode cL_refusesAny 180 = .ok (.if_icmp .ne 192, 3) := by decide +kernel
theorem dL_refusesAny_183 : decode cL_refusesAny 183 = .ok (.aload_n 0, 1) := by decide +kernel
theorem dL_refusesAny_184 : decode cL_refusesAny 184 = .ok (.iload_n 2, 1) := by decide +kernel
theorem dL_refusesAny_185 : decode cL_refusesAny 185 = .ok (.iconst 0, 1) := by decide +kernel
theorem dL_refusesAny_186 : decode cL_refusesAny 186 = .ok (.invokevirtual 50, 3) := by decide +kernel
theorem dL_refusesAny_189 : decode cL_refusesAny 189 = .ok (.iconst (-1), 1) := by decide +kernel
theorem dL_refusesAny_190 : decode cL_refusesAny 190 = .ok (.if_icmp .ne 182, 3) := by decide +kernel
theorem dL_refusesAny_193 : decode cL_refusesAny 193 = .ok (.aload_n 0, 1) := by decide +kernel
theorem dL_refusesAny_194 : decode cL_refusesAny 194 = .ok (.iload 4, 2) := by decide +kernel
theorem dL_refusesAny_196 : decode cL_refusesAny 196 = .ok (.iload_n 1, 1) := by decide +kernel
theorem dL_refusesAny_197 : decode cL_refusesAny 197 = .ok (.iconst 2, 1) := by decide +kernel
theorem dL_refusesAny_198 : decode cL_refusesAny 198 = .ok (.irem, 1) := by decide +kernel
theorem dL_refusesAny_199 : decode cL_refusesAny 199 = .ok (.ifCond .ne 7, 3) := by decide +kernel
theorem dL_refusesAny_202 : decode cL_refusesAny 202 = .ok (.iconst 0, 1) := by decide +kernel
theorem dL_refusesAny_203 : decode cL_refusesAny 203 = .ok (.goto 5, 3) := by decide +kernel
theorem dL_refusesAny_206 : decode cL_refusesAny 206 = .ok (.bipush 61, 2) := by decide +kernel
theorem dL_refusesAny_208 : decode cL_refusesAny 208 = .ok (.invokevirtual 50, 3) := by decide +kernel
theorem dL_refusesAny_211 : decode cL_refusesAny 211 = .ok (.bipush (-2), 2) := by decide +kernel
theorem dL_refusesAny_213 : decode cL_refusesAny 213 = .ok (.if_icmp .ne 159, 3) := by decide +kernel
theorem dL_refusesAny_216 : decode cL_refusesAny 216 = .ok (.aload_n 0, 1) := by decide +kernel
theorem dL_refusesAny_217 : decode cL_refusesAny 217 = .ok (.iload_n 2, 1) := by decide +kernel
theorem dL_refusesAny_218 : decode cL_refusesAny 218 = .ok (.invokevirtual 53, 3) := by decide +kernel
theorem dL_refusesAny_221 : decode cL_refusesAny 221 = .ok (.iconst (-1), 1) := by decide +kernel
theorem dL_refusesAny_222 : decode cL_refusesAny 222 = .ok (.if_icmp .ne 150, 3) := by decide +kernel
theorem dL_refusesAny_225 : decode cL_refusesAny 225 = .ok (.iload 5, 2) := by decide +kernel
theorem dL_refusesAny_227 : decode cL_refusesAny 227 = .ok (.ifCond .eq 26, 3) := by decide +kernel
theorem dL_refusesAny_230 : decode cL_refusesAny 230 = .ok (.aload_n 0, 1) := by decide +kernel
theorem dL_refusesAny_231 : decode cL_refusesAny 231 = .ok (.iload 4, 2) := by decide +kernel
theorem dL_refusesAny_233 : decode cL_refusesAny 233 = .ok (.invokevirtual 53, 3) := by decide +kernel
theorem dL_refusesAny_236 : decode cL_refusesAny 236 = .ok (.bipush (-5), 2) := by decide +kernel
theorem dL_refusesAny_238 : decode cL_refusesAny 238 = .ok (.if_icmp .ne 134, 3) := by decide +kernel
theorem dL_refusesAny_241 : decode cL_refusesAny 241 = .ok (.aload_n 0, 1) := by decide +kernel
theorem dL_refusesAny_242 : decode cL_refusesAny 242 = .ok (.iconst 0, 1) := by decide +kernel
theorem dL_refusesAny_243 : decode cL_refusesAny 243 = .ok (.iload 4, 2) := by decide +kernel
theorem dL_refusesAny_245 : decode cL_refusesAny 245 = .ok (.invokevirtual 56, 3) := by decide +kernel
theorem dL_refusesAny_248 : decode cL_refusesAny 248 = .ok (.bipush (-5), 2) := by decide +kernel
theorem dL_refusesAny_250 : decode cL_refusesAny 250 = .ok (.if_icmp .ne 122, 3) := by decide +kernel
theorem dL_refusesAny_253 : decode cL_refusesAny 253 = .ok (.aload_n 0, 1) := by decide +kernel
theorem dL_refusesAny_254 : decode cL_refusesAny 254 = .ok (.iload_n 3, 1) := by decide +kernel
theorem dL_refusesAny_255 : decode cL_refusesAny 255 = .ok (.bipush 9, 2) := by decide +kernel
theorem dL_refusesAny_257 : decode cL_refusesAny 257 = .ok (.invokevirtual 59, 3) := by decide +kernel
theorem dL_refusesAny_260 : decode cL_refusesAny 260 = .ok (.iconst (-1), 1) := by decide +kernel
theorem dL_refusesAny_261 : decode cL_refusesAny 261 = .ok (.if_icmp .ne 111, 3) := by decide +kernel
theorem dL_refusesAny_264 : decode cL_refusesAny 264 = .ok (.aload_n 0, 1) := by decide +kernel
theorem dL_refusesAny_265 : decode cL_refusesAny 265 = .ok (.iconst 0, 1) := by decide +kernel
theorem dL_refusesAny_266 : decode cL_refusesAny 266 = .ok (.iload_n 1, 1) := by decide +kernel
theorem dL_refusesAny_267 : decode cL_refusesAny 267 = .ok (.iconst 2, 1) := by decide +kernel
theorem dL_refusesAny_268 : decode cL_refusesAny 268 = .ok (.irem, 1) := by decide +kernel
theorem dL_refusesAny_269 : decode cL_refusesAny 269 = .ok (.ifCond .ne 7, 3) := by decide +kernel
theorem dL_refusesAny_272 : decode cL_refusesAny 272 = .ok (.iconst (-1), 1) := by decide +kernel
theorem dL_refusesAny_273 : decode cL_refusesAny 273 = .ok (.goto 4, 3) := by decide +kernel
theorem dL_refusesAny_276 : decode cL_refusesAny 276 = .ok (.iconst 4, 1) := by decide +kernel
theorem dL_refusesAny_277 : decode cL_refusesAny 277 = .ok (.invokevirtual 59, 3) := by decide +kernel
theorem dL_refusesAny_280 : decode cL_refusesAny 280 = .ok (.bipush (-2), 2) := by decide +kernel
theorem dL_refusesAny_282 : decode cL_refusesAny 282 = .ok (.if_icmp .ne 90, 3) := by decide +kernel
theorem dL_refusesAny_285 : decode cL_refusesAny 285 = .ok (.aload_n 0, 1) := by decide +kernel
theorem dL_refusesAny_286 : decode cL_refusesAny 286 = .ok (.iload_n 3, 1) := by decide +kernel
theorem dL_refusesAny_287 : decode cL_refusesAny 287 = .ok (.iconst 0, 1) := by decide +kernel
theorem dL_refusesAny_288 : decode cL_refusesAny 288 = .ok (.invokevirtual 56, 3) := by decide +kernel
theorem dL_refusesAny_291 : decode cL_refusesAny 291 = .ok (.iconst (-1), 1) := by decide +kernel
theorem dL_refusesAny_292 : decode cL_refusesAny 292 = .ok (.if_icmp .ne 80, 3) := by decide +kernel
theorem dL_refusesAny_295 : decode cL_refusesAny 295 = .ok (.aload_n 0, 1) := by decide +kernel
theorem dL_refusesAny_296 : decode cL_refusesAny 296 = .ok (.iconst 0, 1) := by decide +kernel
theorem dL_refusesAny_297 : decode cL_refusesAny 297 = .ok (.iload_n 2, 1) := by decide +kernel
theorem dL_refusesAny_298 : decode cL_refusesAny 298 = .ok (.invokevirtual 56, 3) := by decide +kernel
theorem dL_refusesAny_301 : decode cL_refusesAny 301 = .ok (.iconst (-1), 1) := by decide +kernel
theorem dL_refusesAny_302 : decode cL_refusesAny 302 = .ok (.if_icmp .ne 70, 3) := by decide +kernel
theorem dL_refusesAny_305 : decode cL_refusesAny 305 = .ok (.aload_n 0, 1) := by decide +kernel
theorem dL_refusesAny_306 : decode cL_refusesAny 306 = .ok (.iload_n 3, 1) := by decide +kernel
theorem dL_refusesAny_307 : decode cL_refusesAny 307 = .ok (.iconst 0, 1) := by decide +kernel
theorem dL_refusesAny_308 : decode cL_refusesAny 308 = .ok (.iconst 0, 1) := by decide +kernel
theorem dL_refusesAny_309 : decode cL_refusesAny 309 = .ok (.invokevirtual 62, 3) := by decide +kernel
theorem dL_refusesAny_312 : decode cL_refusesAny 312 = .ok (.iconst (-1), 1) := by decide +kernel
theorem dL_refusesAny_313 : decode cL_refusesAny 313 = .ok (.if_icmp .ne 59, 3) := by decide +kernel
theorem dL_refusesAny_316 : decode cL_refusesAny 316 = .ok (.aload_n 0, 1) := by decide +kernel
theorem dL_refusesAny_317 : decode cL_refusesAny 317 = .ok (.iconst 0, 1) := by decide +kernel
theorem dL_refusesAny_318 : decode cL_refusesAny 318 = .ok (.iload_n 2, 1) := by decide +kernel
theorem dL_refusesAny_319 : decode cL_refusesAny 319 = .ok (.iconst 0, 1) := by decide +kernel
theorem dL_refusesAny_320 : decode cL_refusesAny 320 = .ok (.invokevirtual 62, 3) := by decide +kernel
theorem dL_refusesAny_323 : decode cL_refusesAny 323 = .ok (.iconst (-1), 1) := by decide +kernel
theorem dL_refusesAny_324 : decode cL_refusesAny 324 = .ok (.if_icmp .ne 48, 3) := by decide +kernel
theorem dL_refusesAny_327 : decode cL_refusesAny 327 = .ok (.aload_n 0, 1) := by decide +kernel
theorem dL_refusesAny_328 : decode cL_refusesAny 328 = .ok (.iconst 0, 1) := by decide +kernel
theorem dL_refusesAny_329 : decode cL_refusesAny 329 = .ok (.iconst 0, 1) := by decide +kernel
theorem dL_refusesAny_330 : decode cL_refusesAny 330 = .ok (.iload_n 2, 1) := by decide +kernel
theorem dL_refusesAny_331 : decode cL_refusesAny 331 = .ok (.invokevirtual 62, 3) := by decide +kernel
theorem dL_refusesAny_334 : decode cL_refusesAny 334 = .ok (.iconst (-1), 1) := by decide +kernel
theorem dL_refusesAny_335 : decode cL_refusesAny 335 = .ok (.if_icmp .ne 37, 3) := by decide +kernel
theorem dL_refusesAny_338 : decode cL_refusesAny 338 = .ok (.aload_n 0, 1) := by decide +kernel
theorem dL_refusesAny_339 : decode cL_refusesAny 339 = .ok (.iload_n 3, 1) := by decide +kernel
theorem dL_refusesAny_340 : decode cL_refusesAny 340 = .ok (.invokevirtual 66, 3) := by decide +kernel
theorem dL_refusesAny_343 : decode cL_refusesAny 343 = .ok (.iconst (-1), 1) := by decide +kernel
theorem dL_refusesAny_344 : decode cL_refusesAny 344 = .ok (.if_icmp .ne 28, 3) := by decide +kernel
theorem dL_refusesAny_347 : decode cL_refusesAny 347 = .ok (.aload_n 0, 1) := by decide +kernel
theorem dL_refusesAny_348 : decode cL_refusesAny 348 = .ok (.iload_n 1, 1) := by decide +kernel
theorem dL_refusesAny_349 : decode cL_refusesAny 349 = .ok (.iconst 2, 1) := by decide +kernel
theorem dL_refusesAny_350 : decode cL_refusesAny 350 = .ok (.irem, 1) := by decide +kernel
theorem dL_refusesAny_351 : decode cL_refusesAny 351 = .ok (.ifCond .ne 7, 3) := by decide +kernel
theorem dL_refusesAny_354 : decode cL_refusesAny 354 = .ok (.iconst (-1), 1) := by decide +kernel
theorem dL_refusesAny_355 : decode cL_refusesAny 355 = .ok (.goto 5, 3) := by decide +kernel
theorem dL_refusesAny_358 : decode cL_refusesAny 358 = .ok (.bipush 12, 2) := by decide +kernel
theorem dL_refusesAny_360 : decode cL_refusesAny 360 = .ok (.invokevirtual 69, 3) := by decide +kernel
theorem dL_refusesAny_363 : decode cL_refusesAny 363 = .ok (.bipush (-2), 2) := by decide +kernel
theorem dL_refusesAny_365 : decode cL_refusesAny 365 = .ok (.if_icmp .ne 7, 3) := by decide +kernel
theorem dL_refusesAny_368 : decode cL_refusesAny 368 = .ok (.iconst 1, 1) := by decide +kernel
theorem dL_refusesAny_369 : decode cL_refusesAny 369 = .ok (.goto 4, 3) := by decide +kernel
theorem dL_refusesAny_372 : decode cL_refusesAny 372 = .ok (.iconst 0, 1) := by decide +kernel
theorem dL_refusesAny_373 : decode cL_refusesAny 373 = .ok (.istore 6, 2) := by decide +kernel
theorem dL_refusesAny_375 : decode cL_refusesAny 375 = .ok (.iload 6, 2) := by decide +kernel
theorem dL_refusesAny_377 : decode cL_refusesAny 377 = .ok (.ifCond .eq 287, 3) := by decide +kernel
theorem dL_refusesAny_380 : decode cL_refusesAny 380 = .ok (.aload_n 0, 1) := by decide +kernel
theorem dL_refusesAny_381 : decode cL_refusesAny 381 = .ok (.iload_n 2, 1) := by decide +kernel
theorem dL_refusesAny_382 : decode cL_refusesAny 382 = .ok (.bipush 99, 2) := by decide +kernel
theorem dL_refusesAny_384 : decode cL_refusesAny 384 = .ok (.invokevirtual 24, 3) := by decide +kernel
theorem dL_refusesAny_387 : decode cL_refusesAny 387 = .ok (.iconst (-1), 1) := by decide +kernel
theorem dL_refusesAny_388 : decode cL_refusesAny 388 = .ok (.if_icmp .ne 276, 3) := by decide +kernel
theorem dL_refusesAny_391 : decode cL_refusesAny 391 = .ok (.aload_n 0, 1) := by decide +kernel
theorem dL_refusesAny_392 : decode cL_refusesAny 392 = .ok (.iload 4, 2) := by decide +kernel
theorem dL_refusesAny_394 : decode cL_refusesAny 394 = .ok (.iload_n 1, 1) := by decide +kernel
theorem dL_refusesAny_395 : decode cL_refusesAny 395 = .ok (.iconst 2, 1) := by decide +kernel
theorem dL_refusesAny_396 : decode cL_refusesAny 396 = .ok (.irem, 1) := by decide +kernel
theorem dL_refusesAny_397 : decode cL_refusesAny 397 = .ok (.ifCond .ne 7, 3) := by decide +kernel
theorem dL_refusesAny_400 : decode cL_refusesAny 400 = .ok (.iconst (-1), 1) := by decide +kernel
theorem dL_refusesAny_401 : decode cL_refusesAny 401 = .ok (.goto 5, 3) := by decide +kernel
theorem dL_refusesAny_404 : decode cL_refusesAny 404 = .ok (.bipush 7, 2) := by decide +kernel
theorem dL_refusesAny_406 : decode cL_refusesAny 406 = .ok (.invokevirtual 24, 3) := by decide +kernel
theorem dL_refusesAny_409 : decode cL_refusesAny 409 = .ok (.bipush (-2), 2) := by decide +kernel
theorem dL_refusesAny_411 : decode cL_refusesAny 411 = .ok (.if_icmp .ne 253, 3) := by decide +kernel
theorem dL_refusesAny_414 : decode cL_refusesAny 414 = .ok (.aload_n 0, 1) := by decide +kernel
theorem dL_refusesAny_415 : decode cL_refusesAny 415 = .ok (.iload_n 3, 1) := by decide +kernel
theorem dL_refusesAny_416 : decode cL_refusesAny 416 = .ok (.bipush 99, 2) := by decide +kernel
theorem dL_refusesAny_418 : decode cL_refusesAny 418 = .ok (.invokevirtual 27, 3) := by decide +kernel
theorem dL_refusesAny_421 : decode cL_refusesAny 421 = .ok (.iconst (-1), 1) := by decide +kernel
theorem dL_refusesAny_422 : decode cL_refusesAny 422 = .ok (.if_icmp .ne 242, 3) := by decide +kernel
theorem dL_refusesAny_425 : decode cL_refusesAny 425 = .ok (.aload_n 0, 1) := by decide +kernel
theorem dL_refusesAny_426 : decode cL_refusesAny 426 = .ok (.iconst 0, 1) := by decide +kernel
theorem dL_refusesAny_427 : decode cL_refusesAny 427 = .ok (.iload_n 1, 1) := by decide +kernel
theorem dL_refusesAny_428 : decode cL_refusesAny 428 = .ok (.iconst 2, 1) := by decide +kernel
theorem dL_refusesAny_429 : decode cL_refusesAny 429 = .ok (.irem, 1) := by decide +kernel
theorem dL_refusesAny_430 : decode cL_refusesAny 430 = .ok (.ifCond .ne 7, 3) := by decide +kernel
theorem dL_refusesAny_433 : decode cL_refusesAny 433 = .ok (.iconst (-1), 1) := by decide +kernel
theorem dL_refusesAny_434 : decode cL_refusesAny 434 = .ok (.goto 5, 3) := by decide +kernel
theorem dL_refusesAny_437 : decode cL_refusesAny 437 = .ok (.bipush 6, 2) := by decide +kernel
theorem dL_refusesAny_439 : decode cL_refusesAny 439 = .ok (.invokevirtual 27, 3) := by decide +kernel
theorem dL_refusesAny_442 : decode cL_refusesAny 442 = .ok (.bipush (-2), 2) := by decide +kernel
theorem dL_refusesAny_444 : decode cL_refusesAny 444 = .ok (.if_icmp .ne 220, 3) := by decide +kernel
theorem dL_refusesAny_447 : decode cL_refusesAny 447 = .ok (.aload_n 0, 1) := by decide +kernel
theorem dL_refusesAny_448 : decode cL_refusesAny 448 = .ok (.iload_n 3, 1) := by decide +kernel
theorem dL_refusesAny_449 : decode cL_refusesAny 449 = .ok (.iconst 0, 1) := by decide +kernel
theorem dL_refusesAny_450 : decode cL_refusesAny 450 = .ok (.invokevirtual 44, 3) := by decide +kernel
theorem dL_refusesAny_453 : decode cL_refusesAny 453 = .ok (.iconst (-1), 1) := by decide +kernel
theorem dL_refusesAny_454 : decode cL_refusesAny 454 = .ok (.if_icmp .ne 210, 3) := by decide +kernel
theorem dL_refusesAny_457 : decode cL_refusesAny 457 = .ok (.aload_n 0, 1) := by decide +kernel
theorem dL_refusesAny_458 : decode cL_refusesAny 458 = .ok (.iconst 0, 1) := by decide +kernel
theorem dL_refusesAny_459 : decode cL_refusesAny 459 = .ok (.iload_n 2, 1) := by decide +kernel
theorem dL_refusesAny_460 : decode cL_refusesAny 460 = .ok (.invokevirtual 44, 3) := by decide +kernel
theorem dL_refusesAny_463 : decode cL_refusesAny 463 = .ok (.iconst (-1), 1) := by decide +kernel
theorem dL_refusesAny_464 : decode cL_refusesAny 464 = .ok (.if_icmp .ne 200, 3) := by decide +kernel
theorem dL_refusesAny_467 : decode cL_refusesAny 467 = .ok (.aload_n 0, 1) := by decide +kernel
theorem dL_refusesAny_468 : decode cL_refusesAny 468 = .ok (.iload_n 3, 1) := by decide +kernel
theorem dL_refusesAny_469 : decode cL_refusesAny 469 = .ok (.iconst 0, 1) := by decide +kernel
theorem dL_refusesAny_470 : decode cL_refusesAny 470 = .ok (.invokevirtual 20, 3) := by decide +kernel
theorem dL_refusesAny_473 : decode cL_refusesAny 473 = .ok (.iconst (-1), 1) := by decide +kernel
theorem dL_refusesAny_474 : decode cL_refusesAny 474 = .ok (.if_icmp .ne 190, 3) := by decide +kernel
theorem dL_refusesAny_477 : decode cL_refusesAny 477 = .ok (.aload_n 0, 1) := by decide +kernel
theorem dL_refusesAny_478 : decode cL_refusesAny 478 = .ok (.iconst 0, 1) := by decide +kernel
theorem dL_refusesAny_479 : decode cL_refusesAny 479 = .ok (.iload_n 2, 1) := by decide +kernel
theorem dL_refusesAny_480 : decode cL_refusesAny 480 = .ok (.invokevirtual 20, 3) := by decide +kernel
theorem dL_refusesAny_483 : decode cL_refusesAny 483 = .ok (.iconst (-1), 1) := by decide +kernel
theorem dL_refusesAny_484 : decode cL_refusesAny 484 = .ok (.if_icmp .ne 180, 3) := by decide +kernel
theorem dL_refusesAny_487 : decode cL_refusesAny 487 = .ok (.aload_n 0, 1) := by decide +kernel
theorem dL_refusesAny_488 : decode cL_refusesAny 488 = .ok (.iload_n 1, 1) := by decide +kernel
theorem dL_refusesAny_489 : decode cL_refusesAny 489 = .ok (.iconst 2, 1) := by decide +kernel
theorem dL_refusesAny_490 : decode cL_refusesAny 490 = .ok (.irem, 1) := by decide +kernel
theorem dL_refusesAny_491 : decode cL_refusesAny 491 = .ok (.ifCond .ne 7, 3) := by decide +kernel
theorem dL_refusesAny_494 : decode cL_refusesAny 494 = .ok (.iconst (-1), 1) := by decide +kernel
theorem dL_refusesAny_495 : decode cL_refusesAny 495 = .ok (.goto 5, 3) := by decide +kernel
theorem dL_refusesAny_498 : decode cL_refusesAny 498 = .ok (.bipush 16, 2) := by decide +kernel
theorem dL_refusesAny_500 : decode cL_refusesAny 500 = .ok (.invokevirtual 14, 3) := by decide +kernel
theorem dL_refusesAny_503 : decode cL_refusesAny 503 = .ok (.bipush (-2), 2) := by decide +kernel
theorem dL_refusesAny_505 : decode cL_refusesAny 505 = .ok (.if_icmp .ne 159, 3) := by decide +kernel
theorem dL_refusesAny_508 : decode cL_refusesAny 508 = .ok (.aload_n 0, 1) := by decide +kernel
theorem dL_refusesAny_509 : decode cL_refusesAny 509 = .ok (.iload_n 3, 1) := by decide +kernel
theorem dL_refusesAny_510 : decode cL_refusesAny 510 = .ok (.iconst 0, 1) := by decide +kernel
theorem dL_refusesAny_511 : decode cL_refusesAny 511 = .ok (.iconst 0, 1) := by decide +kernel
theorem dL_refusesAny_512 : decode cL_refusesAny 512 = .ok (.bipush 9, 2) := by decide +kernel
theorem dL_refusesAny_514 : decode cL_refusesAny 514 = .ok (.invokevirtual 72, 3) := by decide +kernel
theorem dL_refusesAny_517 : decode cL_refusesAny 517 = .ok (.iconst (-1), 1) := by decide +kernel
theorem dL_refusesAny_518 : decode cL_refusesAny 518 = .ok (.if_icmp .ne 146, 3) := by decide +kernel
theorem dL_refusesAny_521 : decode cL_refusesAny 521 = .ok (.aload_n 0, 1) := by decide +kernel
theorem dL_refusesAny_522 : decode cL_refusesAny 522 = .ok (.iconst 0, 1) := by decide +kernel
theorem dL_refusesAny_523 : decode cL_refusesAny 523 = .ok (.iload_n 2, 1) := by decide +kernel
theorem dL_refusesAny_524 : decode cL_refusesAny 524 = .ok (.iconst 0, 1) := by decide +kernel
theorem dL_refusesAny_525 : decode cL_refusesAny 525 = .ok (.bipush 9, 2) := by decide +kernel
theorem dL_refusesAny_527 : decode cL_refusesAny 527 = .ok (.invokevirtual 72, 3) := by decide +kernel
theorem dL_refusesAny_530 : decode cL_refusesAny 530 = .ok (.iconst (-1), 1) := by decide +kernel
theorem dL_refusesAny_531 : decode cL_refusesAny 531 = .ok (.if_icmp .ne 133, 3) := by decide +kernel
theorem dL_refusesAny_534 : decode cL_refusesAny 534 = .ok (.aload_n 0, 1) := by decide +kernel
theorem dL_refusesAny_535 : decode cL_refusesAny 535 = .ok (.iconst 0, 1) := by decide +kernel
theorem dL_refusesAny_536 : decode cL_refusesAny 536 = .ok (.iconst 0, 1) := by decide +kernel
theorem dL_refusesAny_537 : decode cL_refusesAny 537 = .ok (.iload_n 2, 1) := by decide +kernel
theorem dL_refusesAny_538 : decode cL_refusesAny 538 = .ok (.bipush 9, 2) := by decide +kernel
theorem dL_refusesAny_540 : decode cL_refusesAny 540 = .ok (.invokevirtual 72, 3) := by decide +kernel
theorem dL_refusesAny_543 : decode cL_refusesAny 543 = .ok (.iconst (-1), 1) := by decide +kernel
theorem dL_refusesAny_544 : decode cL_refusesAny 544 = .ok (.if_icmp .ne 120, 3) := by decide +kernel
theorem dL_refusesAny_547 : decode cL_refusesAny 547 = .ok (.aload_n 0, 1) := by decide +kernel
theorem dL_refusesAny_548 : decode cL_refusesAny 548 = .ok (.iconst 0, 1) := by decide +kernel
theorem dL_refusesAny_549 : decode cL_refusesAny 549 = .ok (.iconst 0, 1) := by decide +kernel
theorem dL_refusesAny_550 : decode cL_refusesAny 550 = .ok (.iconst 0, 1) := by decide +kernel
theorem dL_refusesAny_551 : decode cL_refusesAny 551 = .ok (.iload_n 1, 1) := by decide +kernel
theorem dL_refusesAny_552 : decode cL_refusesAny 552 = .ok (.iconst 2, 1) := by decide +kernel
theorem dL_refusesAny_553 : decode cL_refusesAny 553 = .ok (.irem, 1) := by decide +kernel
theorem dL_refusesAny_554 : decode cL_refusesAny 554 = .ok (.ifCond .ne 7, 3) := by decide +kernel
theorem dL_refusesAny_557 : decode cL_refusesAny 557 = .ok (.iconst (-1), 1) := by decide +kernel
theorem dL_refusesAny_558 : decode cL_refusesAny 558 = .ok (.goto 4, 3) := by decide +kernel
theorem dL_refusesAny_561 : decode cL_refusesAny 561 = .ok (.iconst 2, 1) := by decide +kernel
theorem dL_refusesAny_562 : decode cL_refusesAny 562 = .ok (.invokevirtual 72, 3) := by decide +kernel
theorem dL_refusesAny_565 : decode cL_refusesAny 565 = .ok (.bipush (-2), 2) := by decide +kernel
theorem dL_refusesAny_567 : decode cL_refusesAny 567 = .ok (.if_icmp .ne 97, 3) := by decide +kernel
theorem dL_refusesAny_570 : decode cL_refusesAny 570 = .ok (.aload_n 0, 1) := by decide +kernel
theorem dL_refusesAny_571 : decode cL_refusesAny 571 = .ok (.iload_n 2, 1) := by decide +kernel
theorem dL_refusesAny_572 : decode cL_refusesAny 572 = .ok (.invokevirtual 35, 3) := by decide +kernel
theorem dL_refusesAny_575 : decode cL_refusesAny 575 = .ok (.iconst (-1), 1) := by decide +kernel
theorem dL_refusesAny_576 : decode cL_refusesAny 576 = .ok (.if_icmp .ne 88, 3) := by decide +kernel
theorem dL_refusesAny_579 : decode cL_refusesAny 579 = .ok (.aload_n 0, 1) := by decide +kernel
theorem dL_refusesAny_580 : decode cL_refusesAny 580 = .ok (.iload_n 3, 1) := by decide +kernel
theorem dL_refusesAny_581 : decode cL_refusesAny 581 = .ok (.invokevirtual 38, 3) := by decide +kernel
theorem dL_refusesAny_584 : decode cL_refusesAny 584 = .ok (.iconst (-1), 1) := by decide +kernel
theorem dL_refusesAny_585 : decode cL_refusesAny 585 = .ok (.if_icmp .ne 79, 3) := by decide +kernel
theorem dL_refusesAny_588 : decode cL_refusesAny 588 = .ok (.aload_n 0, 1) := by decide +kernel
theorem dL_refusesAny_589 : decode cL_refusesAny 589 = .ok (.iload_n 3, 1) := by decide +kernel
theorem dL_refusesAny_590 : decode cL_refusesAny 590 = .ok (.bipush 9, 2) := by decide +kernel
theorem dL_refusesAny_592 : decode cL_refusesAny 592 = .ok (.invokevirtual 41, 3) := by decide +kernel
theorem dL_refusesAny_595 : decode cL_refusesAny 595 = .ok (.iconst (-1), 1) := by decide +kernel
theorem dL_refusesAny_596 : decode cL_refusesAny 596 = .ok (.if_icmp .ne 68, 3) := by decide +kernel
theorem dL_refusesAny_599 : decode cL_refusesAny 599 = .ok (.aload_n 0, 1) := by decide +kernel
theorem dL_refusesAny_600 : decode cL_refusesAny 600 = .ok (.iconst 0, 1) := by decide +kernel
theorem dL_refusesAny_601 : decode cL_refusesAny 601 = .ok (.iload_n 1, 1) := by decide +kernel
theorem dL_refusesAny_602 : decode cL_refusesAny 602 = .ok (.iconst 2, 1) := by decide +kernel
theorem dL_refusesAny_603 : decode cL_refusesAny 603 = .ok (.irem, 1) := by decide +kernel
theorem dL_refusesAny_604 : decode cL_refusesAny 604 = .ok (.ifCond .ne 7, 3) := by decide +kernel
theorem dL_refusesAny_607 : decode cL_refusesAny 607 = .ok (.iconst (-1), 1) := by decide +kernel
theorem dL_refusesAny_608 : decode cL_refusesAny 608 = .ok (.goto 4, 3) := by decide +kernel
theorem dL_refusesAny_611 : decode cL_refusesAny 611 = .ok (.iconst 2, 1) := by decide +kernel
theorem dL_refusesAny_612 : decode cL_refusesAny 612 = .ok (.invokevirtual 41, 3) := by decide +kernel
theorem dL_refusesAny_615 : decode cL_refusesAny 615 = .ok (.bipush (-2), 2) := by decide +kernel
theorem dL_refusesAny_617 : decode cL_refusesAny 617 = .ok (.if_icmp .ne 47, 3) := by decide +kernel
theorem dL_refusesAny_620 : decode cL_refusesAny 620 = .ok (.aload_n 0, 1) := by decide +kernel
theorem dL_refusesAny_621 : decode cL_refusesAny 621 = .ok (.iload_n 1, 1) := by decide +kernel
theorem dL_refusesAny_622 : decode cL_refusesAny 622 = .ok (.iconst 2, 1) := by decide +kernel
theorem dL_refusesAny_623 : decode cL_refusesAny 623 = .ok (.irem, 1) := by decide +kernel
theorem dL_refusesAny_624 : decode cL_refusesAny 624 = .ok (.ifCond .ne 7, 3) := by decide +kernel
theorem dL_refusesAny_627 : decode cL_refusesAny 627 = .ok (.iconst (-1), 1) := by decide +kernel
theorem dL_refusesAny_628 : decode cL_refusesAny 628 = .ok (.goto 4, 3) := by decide +kernel
theorem dL_refusesAny_631 : decode cL_refusesAny 631 = .ok (.iconst 2, 1) := by decide +kernel
theorem dL_refusesAny_632 : decode cL_refusesAny 632 = .ok (.invokevirtual 76, 3) := by decide +kernel
theorem dL_refusesAny_635 : decode cL_refusesAny 635 = .ok (.bipush (-2), 2) := by decide +kernel
theorem dL_refusesAny_637 : decode cL_refusesAny 637 = .ok (.if_icmp .ne 27, 3) := by decide +kernel
theorem dL_refusesAny_640 : decode cL_refusesAny 640 = .ok (.aload_n 0, 1) := by decide +kernel
theorem dL_refusesAny_641 : decode cL_refusesAny 641 = .ok (.iload_n 1, 1) := by decide +kernel
theorem dL_refusesAny_642 : decode cL_refusesAny 642 = .ok (.iconst 2, 1) := by decide +kernel
theorem dL_refusesAny_643 : decode cL_refusesAny 643 = .ok (.irem, 1) := by decide +kernel
theorem dL_refusesAny_644 : decode cL_refusesAny 644 = .ok (.ifCond .ne 7, 3) := by decide +kernel
theorem dL_refusesAny_647 : decode cL_refusesAny 647 = .ok (.iconst (-1), 1) := by decide +kernel
theorem dL_refusesAny_648 : decode cL_refusesAny 648 = .ok (.goto 4, 3) := by decide +kernel
theorem dL_refusesAny_651 : decode cL_refusesAny 651 = .ok (.iconst 2, 1) := by decide +kernel
theorem dL_refusesAny_652 : decode cL_refusesAny 652 = .ok (.invokevirtual 79, 3) := by decide +kernel
theorem dL_refusesAny_655 : decode cL_refusesAny 655 = .ok (.bipush (-2), 2) := by decide +kernel
theorem dL_refusesAny_657 : decode cL_refusesAny 657 = .ok (.if_icmp .ne 7, 3) := by decide +kernel
theorem dL_refusesAny_660 : decode cL_refusesAny 660 = .ok (.iconst 1, 1) := by decide +kernel
theorem dL_refusesAny_661 : decode cL_refusesAny 661 = .ok (.goto 4, 3) := by decide +kernel
theorem dL_refusesAny_664 : decode cL_refusesAny 664 = .ok (.iconst 0, 1) := by decide +kernel
theorem dL_refusesAny_665 : decode cL_refusesAny 665 = .ok (.istore 6, 2) := by decide +kernel
theorem dL_refusesAny_667 : decode cL_refusesAny 667 = .ok (.iload 6, 2) := by decide +kernel
theorem dL_refusesAny_669 : decode cL_refusesAny 669 = .ok (.ifCond .eq 30, 3) := by decide +kernel
theorem dL_refusesAny_672 : decode cL_refusesAny 672 = .ok (.aload_n 0, 1) := by decide +kernel
theorem dL_refusesAny_673 : decode cL_refusesAny 673 = .ok (.invokevirtual 82, 3) := by decide +kernel
theorem dL_refusesAny_676 : decode cL_refusesAny 676 = .ok (.ifCond .ne 23, 3) := by decide +kernel
theorem dL_refusesAny_679 : decode cL_refusesAny 679 = .ok (.aload_n 0, 1) := by decide +kernel
theorem dL_refusesAny_680 : decode cL_refusesAny 680 = .ok (.invokevirtual 86, 3) := by decide +kernel
theorem dL_refusesAny_683 : decode cL_refusesAny 683 = .ok (.bipush (-3), 2) := by decide +kernel
theorem dL_refusesAny_685 : decode cL_refusesAny 685 = .ok (.if_icmp .ne 14, 3) := by decide +kernel
theorem dL_refusesAny_688 : decode cL_refusesAny 688 = .ok (.aload_n 0, 1) := by decide +kernel
theorem dL_refusesAny_689 : decode cL_refusesAny 689 = .ok (.invokevirtual 89, 3) := by decide +kernel
theorem dL_refusesAny_692 : decode cL_refusesAny 692 = .ok (.ifCond .ne 7, 3) := by decide +kernel
theorem dL_refusesAny_695 : decode cL_refusesAny 695 = .ok (.iconst 1, 1) := by decide +kernel
theorem dL_refusesAny_696 : decode cL_refusesAny 696 = .ok (.goto 4, 3) := by decide +kernel
theorem dL_refusesAny_699 : decode cL_refusesAny 699 = .ok (.iconst 0, 1) := by decide +kernel
theorem dL_refusesAny_700 : decode cL_refusesAny 700 = .ok (.ireturn, 1) := by decide +kernel
set_option maxRecDepth 20000 in
theorem ggL_refuses_L_seen : GoodIn wsL_refuses wsL_seen := goodIn_r _ [4, 5, 6, 7, 8, 9, 10, 11, 12, 13, 14, 15, 16, 17, 18, 19, 20, 21, 22, 23, 24, 25, 26, 27, 28, 29, 30, 31, 32, 33, 34, 35, 36, 37, 38, 39, 40, 41, 42, 43, 44, 45, 46, 47, 48, 49, 50, 51, 52, 53, 54, 55, 56, 57, 58, 59, 60, 61, 62, 63, 64, 65, 66, 67, 68, 69, 70, 71, 72, 73, 74, 75, 76, 77, 78, 79, 80, 81, 82, 83, 84, 85, 86, 87, 88, 89, 90, 91, 92, 93, 94, 95, 96, 97, 98, 99, 100, 101, 102, 103, 104, 105, 106, 107, 108, 109, 110, 111, 112, 113, 114, 115, 116, 117, 318, 319, 320, 321, 322, 323, 324, 325, 326, 327, 328, 329, 330, 331, 332, 333, 334, 335, 336, 337, 338, 339, 340] (by decide +kernel) (by decide +kernel)
set_option maxRecDepth 20000 in
theorem gL_refuses_L_seen : GoodIn wsL_refuses (va_wsS RL 92 yL_seen wsL_seen) := goodIn_app (goodIn_of _ (by decide +kernel)) ggL_refuses_L_seen
set_option maxRecDepth 20000 in
theorem ggL_refuses_X4_count : GoodIn wsL_refuses wsX4_count := goodIn_r _ [11, 12, 13, 14, 15, 16, 17, 18, 19, 20, 21, 22, 23, 24, 25, 26, 27, 28, 10, 29, 30, 31, 32, 33, 34, 35, 36, 37, 38, 39, 40, 41, 42, 43, 44, 45, 46, 47, 48, 49, 50, 51, 52, 318, 319, 320, 321, 322, 323, 324, 325, 326, 327, 328, 329, 330, 331, 332, 333, 334, 335, 336, 337, 338, 339, 340] (by decide +kernel) (by decide +kernel)
set_option maxRecDepth 20000 in
theorem gL_refuses_X4_count : GoodIn wsL_refuses (wsV RL 14 RX4 yX4_count wsX4_count) := goodIn_app (goodIn_of _ (by decide +kernel)) ggL_refuses_X4_count
set_option maxRecDepth 20000 in
theorem ggL_refuses_L_refusesAny : GoodIn wsL_refuses wsL_refusesAny := goodIn_r _ [120, 7, 8, 9, 10, 11, 12, 13, 14, 15, 16, 17, 18, 19, 20, 21, 22, 23, 24, 25, 26, 27, 28, 29, 30, 31, 32, 33, 34, 35, 36, 37, 38, 39, 40, 41, 42, 43, 44, 45, 46, 47, 48, 49, 50, 51, 52, 121, 122, 123, 124, 125, 126, 127, 128, 129, 130, 131, 132, 133, 134, 135, 136, 137, 138, 139, 140, 141, 142, 143, 75, 144, 107, 145, 146, 147, 80, 87, 148, 149, 150, 151, 152, 153, 154, 155, 156, 157, 69, 61, 62, 63, 158, 159, 160, 161, 162, 163, 164, 165, 83, 84, 85, 86, 81, 82, 166, 167, 168, 169, 170, 171, 172, 173, 57, 58, 59, 60, 64, 98, 174, 175, 176, 177, 178, 96, 179, 180, 181, 182, 183, 184, 185, 186, 187, 188, 189, 190, 191, 192, 103, 104, 105, 106, 108, 109, 110, 111, 112, 113, 72, 73, 74, 114, 77, 78, 79, 115, 116, 117, 193, 194, 195, 196, 197, 198, 199, 200, 201, 202, 203, 204, 205, 206, 207, 208, 209, 210, 211, 212, 213, 214, 215, 216, 217, 218, 219, 220, 221, 222, 223, 224, 225, 226, 227, 228, 229, 230, 231, 232, 233, 234, 235, 236, 65, 66, 67, 68, 70, 71, 76, 88, 89, 90, 91, 92, 93, 94, 95, 97, 99, 100, 101, 102, 237, 238, 239, 240, 241, 53, 54, 55, 56, 242, 243, 244, 245, 246, 247, 248, 249, 250, 251, 252, 253, 254, 255, 256, 257, 258, 259, 260, 261, 262, 263, 264, 265, 266, 267, 268, 269, 270, 271, 272, 273, 274, 275, 276, 277, 278, 279, 280, 281, 282, 283, 284, 285, 286, 287, 288, 289, 290, 291, 292, 293, 294, 295, 296, 297, 298, 299, 300, 301, 302, 303, 304, 305, 306, 307, 308, 309, 310, 311, 312, 313, 314, 315, 316, 317, 318, 319, 320, 321, 322, 323, 324, 325, 326, 327, 328, 329, 330, 331, 332, 333, 334, 335, 336, 337, 338, 339, 340, 341, 342] (by decide +kernel) (by decide +kernel)
set_option maxRecDepth 20000 in
theorem gL_refuses_L_refusesAny : GoodIn wsL_refuses (va_wsS RL 96 yL_refusesAny wsL_refusesAny) := goodIn_app (goodIn_of _ (by decide +kernel)) ggL_refuses_L_refusesAny
theorem dL_refuses_0 : decode cL_refuses 0 = .ok (.aload_n 0, 1) := by decide +kernel
theorem dL_refuses_1 : decode cL_refuses 1 = .ok (.invokestatic 92, 3) := by decide +kernel
theorem dL_refuses_4 : decode cL_refuses 4 = .ok (.lstore_n 2, 1) := by decide +kernel
theorem dL_refuses_5 : decode cL_refuses 5 = .ok (.aload_n 0, 1) := by decide +kernel
theorem dL_refuses_6 : decode cL_refuses 6 = .ok (.bipush 15, 2) := by decide +kernel
theorem dL_refuses_8 : decode cL_refuses 8 = .ok (.invokevirtual 14, 3) := by decide +kernel
theorem dL_refuses_11 : decode cL_refuses 11 = .ok (.istore 4, 2) := by decide +kernel
theorem dL_refuses_13 : decode cL_refuses 13 = .ok (.aload_n 0, 1) := by decide +kernel
theorem dL_refuses_14 : decode cL_refuses 14 = .ok (.iload_n 1, 1) := by decide +kernel
theorem dL_refuses_15 : decode cL_refuses 15 = .ok (.invokestatic 96, 3) := by decide +kernel
theorem dL_refuses_18 : decode cL_refuses 18 = .ok (.ifCond .eq 27, 3) := by decide +kernel
theorem dL_refuses_21 : decode cL_refuses 21 = .ok (.aload_n 0, 1) := by decide +kernel
theorem dL_refuses_22 : decode cL_refuses 22 = .ok (.invokestatic 92, 3) := by decide +kernel
theorem dL_refuses_25 : decode cL_refuses 25 = .ok (.lload_n 2, 1) := by decide +kernel
theorem dL_refuses_26 : decode cL_refuses 26 = .ok (.lcmp, 1) := by decide +kernel
theorem dL_refuses_27 : decode cL_refuses 27 = .ok (.ifCond .ne 18, 3) := by decide +kernel
theorem dL_refuses_30 : decode cL_refuses 30 = .ok (.aload_n 0, 1) := by decide +kernel
theorem dL_refuses_31 : decode cL_refuses 31 = .ok (.bipush 15, 2) := by decide +kernel
theorem dL_refuses_33 : decode cL_refuses 33 = .ok (.invokevirtual 14, 3) := by decide +kernel
theorem dL_refuses_36 : decode cL_refuses 36 = .ok (.iload 4, 2) := by decide +kernel
theorem dL_refuses_38 : decode cL_refuses 38 = .ok (.if_icmp .ne 7, 3) := by decide +kernel
theorem dL_refuses_41 : decode cL_refuses 41 = .ok (.iconst 1, 1) := by decide +kernel
theorem dL_refuses_42 : decode cL_refuses 42 = .ok (.goto 4, 3) := by decide +kernel
theorem dL_refuses_45 : decode cL_refuses 45 = .ok (.iconst 0, 1) := by decide +kernel
theorem dL_refuses_46 : decode cL_refuses 46 = .ok (.ireturn, 1) := by decide +kernel
set_option maxRecDepth 20000 in
theorem ggL_passes_X4_count : GoodIn wsL_passes wsX4_count := goodIn_r _ [5, 6, 7, 8, 9, 10, 11, 12, 13, 14, 15, 16, 17, 18, 19, 20, 21, 22, 4, 23, 24, 25, 26, 27, 28, 29, 30, 31, 32, 33, 34, 35, 36, 37, 38, 39, 40, 41, 42, 43, 44, 45, 46, 143, 144, 145, 146, 147, 148, 149, 150, 151, 152, 153, 154, 155, 156, 157, 158, 159, 160, 161, 162, 163, 164, 165] (by decide +kernel) (by decide +kernel)
set_option maxRecDepth 20000 in
theorem gL_passes_X4_count : GoodIn wsL_passes (wsV RL 14 RX4 yX4_count wsX4_count) := goodIn_app (goodIn_of _ (by decide +kernel)) ggL_passes_X4_count
set_option maxRecDepth 20000 in
theorem ggL_passes_X4_pass : GoodIn wsL_passes wsX4_pass := goodIn_r _ [50, 6, 8, 19, 9, 51, 52, 53, 54, 55, 56, 57, 58, 59, 60, 61, 62, 63, 64, 27, 65, 66, 67, 68, 69, 70, 71, 72, 73, 37, 74, 75, 76, 77, 78, 79, 80, 4, 81, 82, 83, 84, 85, 86, 87, 88, 89, 90, 91, 92, 93, 94, 95, 96, 97, 98, 99, 100, 101, 102, 103, 104, 105, 106, 107, 108, 109, 110, 111, 112, 113, 114, 115, 38, 39, 116, 117, 118, 119, 21, 22, 23, 143, 144, 145, 146, 147, 148, 149, 150, 151, 152, 153, 154, 155, 156, 157, 158, 159, 160, 161, 164, 165] (by decide +kernel) (by decide +kernel)
set_option maxRecDepth 20000 in
theorem gL_passes_X4_pass : GoodIn wsL_passes (wsV RL 69 RX4 yX4_pass wsX4_pass) := goodIn_app (goodIn_of _ (by decide +kernel)) ggL_passes_X4_pass
set_option maxRecDepth 20000 in
theorem ggL_passes_L_size : GoodIn wsL_passes wsL_size := goodIn_r _ [123] (by decide +kernel) (by decide +kernel)
set_option maxRecDepth 20000 in
theorem gL_passes_L_size : GoodIn wsL_passes (va_wsS RL 30 yL_size wsL_size) := goodIn_app (goodIn_of _ (by decide +kernel)) ggL_passes_L_size
set_option maxRecDepth 20000 in
theorem ggL_passes_X4_puddle : GoodIn wsL_passes wsX4_puddle := goodIn_r _ [127, 6, 128, 9, 129, 130, 131, 4, 132, 133, 105, 106, 27, 107, 68, 134, 95, 96, 97, 74, 98, 99, 135, 136, 137, 138, 75, 139, 140, 141, 142, 33, 34, 35, 36, 37, 38, 39, 143, 144, 145, 146, 147, 148, 149, 150, 151, 152, 153, 154, 155, 156, 157, 158, 159, 160, 161] (by decide +kernel) (by decide +kernel)
set_option maxRecDepth 20000 in
theorem gL_passes_X4_puddle : GoodIn wsL_passes (wsV RL 24 RX4 yX4_puddle wsX4_puddle) := goodIn_app (goodIn_of _ (by decide +kernel)) ggL_passes_X4_puddle
theorem dL_passes_0 : decode cL_passes 0 = .ok (.aload_n 0, 1) := by decide +kernel
theorem dL_passes_1 : decode cL_passes 1 = .ok (.iconst 5, 1) := by decide +kernel
theorem dL_passes_2 : decode cL_passes 2 = .ok (.invokevirtual 14, 3) := by decide +kernel
theorem dL_passes_5 : decode cL_passes 5 = .ok (.istore_n 2, 1) := by decide +kernel
theorem dL_passes_6 : decode cL_passes 6 = .ok (.aload_n 0, 1) := by decide +kernel
theorem dL_passes_7 : decode cL_passes 7 = .ok (.bipush 6, 2) := by decide +kernel
theorem dL_passes_9 : decode cL_passes 9 = .ok (.invokevirtual 14, 3) := by decide +kernel
theorem dL_passes_12 : decode cL_passes 12 = .ok (.istore_n 3, 1) := by decide +kernel
theorem dL_passes_13 : decode cL_passes 13 = .ok (.aload_n 0, 1) := by decide +kernel
theorem dL_passes_14 : decode cL_passes 14 = .ok (.bipush 7, 2) := by decide +kernel
theorem dL_passes_16 : decode cL_passes 16 = .ok (.invokevirtual 14, 3) := by decide +kernel
theorem dL_passes_19 : decode cL_passes 19 = .ok (.istore 4, 2) := by decide +kernel
theorem dL_passes_21 : decode cL_passes 21 = .ok (.aload_n 0, 1) := by decide +kernel
theorem dL_passes_22 : decode cL_passes 22 = .ok (.bipush 9, 2) := by decide +kernel
theorem dL_passes_24 : decode cL_passes 24 = .ok (.invokevirtual 14, 3) := by decide +kernel
theorem dL_passes_27 : decode cL_passes 27 = .ok (.istore 5, 2) := by decide +kernel
theorem dL_passes_29 : decode cL_passes 29 = .ok (.aload_n 0, 1) := by decide +kernel
theorem dL_passes_30 : decode cL_passes 30 = .ok (.bipush 10, 2) := by decide +kernel
theorem dL_passes_32 : decode cL_passes 32 = .ok (.invokevirtual 14, 3) := by decide +kernel
theorem dL_passes_35 : decode cL_passes 35 = .ok (.istore 6, 2) := by decide +kernel
theorem dL_passes_37 : decode cL_passes 37 = .ok (.aload_n 0, 1) := by decide +kernel
theorem dL_passes_38 : decode cL_passes 38 = .ok (.bipush 11, 2) := by decide +kernel
theorem dL_passes_40 : decode cL_passes 40 = .ok (.invokevirtual 14, 3) := by decide +kernel
theorem dL_passes_43 : decode cL_passes 43 = .ok (.istore 7, 2) := by decide +kernel
theorem dL_passes_45 : decode cL_passes 45 = .ok (.aload_n 0, 1) := by decide +kernel
theorem dL_passes_46 : decode cL_passes 46 = .ok (.iconst 4, 1) := by decide +kernel
theorem dL_passes_47 : decode cL_passes 47 = .ok (.invokevirtual 14, 3) := by decide +kernel
theorem dL_passes_50 : decode cL_passes 50 = .ok (.istore 8, 2) := by decide +kernel
theorem dL_passes_52 : decode cL_passes 52 = .ok (.aload_n 0, 1) := by decide +kernel
theorem dL_passes_53 : decode cL_passes 53 = .ok (.iload_n 1, 1) := by decide +kernel
theorem dL_passes_54 : decode cL_passes 54 = .ok (.invokevirtual 69, 3) := by decide +kernel
theorem dL_passes_57 : decode cL_passes 57 = .ok (.istore 9, 2) := by decide +kernel
theorem dL_passes_59 : decode cL_passes 59 = .ok (.iload 9, 2) := by decide +kernel
theorem dL_passes_61 : decode cL_passes 61 = .ok (.aload_n 0, 1) := by decide +kernel
theorem dL_passes_62 : decode cL_passes 62 = .ok (.iconst 5, 1) := by decide +kernel
theorem dL_passes_63 : decode cL_passes 63 = .ok (.invokevirtual 14, 3) := by decide +kernel
theorem dL_passes_66 : decode cL_passes 66 = .ok (.if_icmp .ne 57, 3) := by decide +kernel
theorem dL_passes_69 : decode cL_passes 69 = .ok (.aload_n 0, 1) := by decide +kernel
theorem dL_passes_70 : decode cL_passes 70 = .ok (.iconst 4, 1) := by decide +kernel
theorem dL_passes_71 : decode cL_passes 71 = .ok (.invokevirtual 14, 3) := by decide +kernel
theorem dL_passes_74 : decode cL_passes 74 = .ok (.iload 8, 2) := by decide +kernel
theorem dL_passes_76 : decode cL_passes 76 = .ok (.iload_n 1, 1) := by decide +kernel
theorem dL_passes_77 : decode cL_passes 77 = .ok (.bipush 11, 2) := by decide +kernel
theorem dL_passes_79 : decode cL_passes 79 = .ok (.if_icmp .ne 7, 3) := by decide +kernel
theorem dL_passes_82 : decode cL_passes 82 = .ok (.iconst 1, 1) := by decide +kernel
theorem dL_passes_83 : decode cL_passes 83 = .ok (.goto 4, 3) := by decide +kernel
theorem dL_passes_86 : decode cL_passes 86 = .ok (.iconst 0, 1) := by decide +kernel
theorem dL_passes_87 : decode cL_passes 87 = .ok (.iadd, 1) := by decide +kernel
theorem dL_passes_88 : decode cL_passes 88 = .ok (.if_icmp .ne 35, 3) := by decide +kernel
theorem dL_passes_91 : decode cL_passes 91 = .ok (.iload_n 1, 1) := by decide +kernel
theorem dL_passes_92 : decode cL_passes 92 = .ok (.bipush 11, 2) := by decide +kernel
theorem dL_passes_94 : decode cL_passes 94 = .ok (.if_icmp .eq 25, 3) := by decide +kernel
theorem dL_passes_97 : decode cL_passes 97 = .ok (.aload_n 0, 1) := by decide +kernel
theorem dL_passes_98 : decode cL_passes 98 = .ok (.bipush 10, 2) := by decide +kernel
theorem dL_passes_100 : decode cL_passes 100 = .ok (.invokevirtual 14, 3) := by decide +kernel
theorem dL_passes_103 : decode cL_passes 103 = .ok (.iload 6, 2) := by decide +kernel
theorem dL_passes_105 : decode cL_passes 105 = .ok (.if_icmp .ne 18, 3) := by decide +kernel
theorem dL_passes_108 : decode cL_passes 108 = .ok (.aload_n 0, 1) := by decide +kernel
theorem dL_passes_109 : decode cL_passes 109 = .ok (.bipush 11, 2) := by decide +kernel
theorem dL_passes_111 : decode cL_passes 111 = .ok (.invokevirtual 14, 3) := by decide +kernel
theorem dL_passes_114 : decode cL_passes 114 = .ok (.iload 7, 2) := by decide +kernel
theorem dL_passes_116 : decode cL_passes 116 = .ok (.if_icmp .ne 7, 3) := by decide +kernel
theorem dL_passes_119 : decode cL_passes 119 = .ok (.iconst 1, 1) := by decide +kernel
theorem dL_passes_120 : decode cL_passes 120 = .ok (.goto 4, 3) := by decide +kernel
theorem dL_passes_123 : decode cL_passes 123 = .ok (.iconst 0, 1) := by decide +kernel
theorem dL_passes_124 : decode cL_passes 124 = .ok (.istore 10, 2) := by decide +kernel
theorem dL_passes_126 : decode cL_passes 126 = .ok (.iload_n 1, 1) := by decide +kernel
theorem dL_passes_127 : decode cL_passes 127 = .ok (.ifCond .ne 69, 3) := by decide +kernel
theorem dL_passes_130 : decode cL_passes 130 = .ok (.iload 10, 2) := by decide +kernel
theorem dL_passes_132 : decode cL_passes 132 = .ok (.ifCond .eq 62, 3) := by decide +kernel
theorem dL_passes_135 : decode cL_passes 135 = .ok (.aload_n 0, 1) := by decide +kernel
theorem dL_passes_136 : decode cL_passes 136 = .ok (.bipush 9, 2) := by decide +kernel
theorem dL_passes_138 : decode cL_passes 138 = .ok (.invokevirtual 14, 3) := by decide +kernel
theorem dL_passes_141 : decode cL_passes 141 = .ok (.ifCond .ne 53, 3) := by decide +kernel
theorem dL_passes_144 : decode cL_passes 144 = .ok (.aload_n 0, 1) := by decide +kernel
theorem dL_passes_145 : decode cL_passes 145 = .ok (.bipush 6, 2) := by decide +kernel
theorem dL_passes_147 : decode cL_passes 147 = .ok (.invokevirtual 14, 3) := by decide +kernel
theorem dL_passes_150 : decode cL_passes 150 = .ok (.iload_n 3, 1) := by decide +kernel
theorem dL_passes_151 : decode cL_passes 151 = .ok (.if_icmp .ne 43, 3) := by decide +kernel
theorem dL_passes_154 : decode cL_passes 154 = .ok (.iload_n 2, 1) := by decide +kernel
theorem dL_passes_155 : decode cL_passes 155 = .ok (.iload 9, 2) := by decide +kernel
theorem dL_passes_157 : decode cL_passes 157 = .ok (.isub, 1) := by decide +kernel
theorem dL_passes_158 : decode cL_passes 158 = .ok (.aload_n 0, 1) := by decide +kernel
theorem dL_passes_159 : decode cL_passes 159 = .ok (.bipush 7, 2) := by decide +kernel
theorem dL_passes_161 : decode cL_passes 161 = .ok (.invokevirtual 14, 3) := by decide +kernel
theorem dL_passes_164 : decode cL_passes 164 = .ok (.iload 4, 2) := by decide +kernel
theorem dL_passes_166 : decode cL_passes 166 = .ok (.isub, 1) := by decide +kernel
theorem dL_passes_167 : decode cL_passes 167 = .ok (.if_icmp .ne 27, 3) := by decide +kernel
theorem dL_passes_170 : decode cL_passes 170 = .ok (.aload_n 0, 1) := by decide +kernel
theorem dL_passes_171 : decode cL_passes 171 = .ok (.bipush 7, 2) := by decide +kernel
theorem dL_passes_173 : decode cL_passes 173 = .ok (.invokevirtual 14, 3) := by decide +kernel
theorem dL_passes_176 : decode cL_passes 176 = .ok (.iload 4, 2) := by decide +kernel
theorem dL_passes_178 : decode cL_passes 178 = .ok (.isub, 1) := by decide +kernel
theorem dL_passes_179 : decode cL_passes 179 = .ok (.bipush 12, 2) := by decide +kernel
theorem dL_passes_181 : decode cL_passes 181 = .ok (.aload_n 0, 1) := by decide +kernel
theorem dL_passes_182 : decode cL_passes 182 = .ok (.iconst 1, 1) := by decide +kernel
theorem dL_passes_183 : decode cL_passes 183 = .ok (.invokevirtual 14, 3) := by decide +kernel
theorem dL_passes_186 : decode cL_passes 186 = .ok (.imul, 1) := by decide +kernel
theorem dL_passes_187 : decode cL_passes 187 = .ok (.if_icmp .gt 7, 3) := by decide +kernel
theorem dL_passes_190 : decode cL_passes 190 = .ok (.iconst 1, 1) := by decide +kernel
theorem dL_passes_191 : decode cL_passes 191 = .ok (.goto 4, 3) := by decide +kernel
theorem dL_passes_194 : decode cL_passes 194 = .ok (.iconst 0, 1) := by decide +kernel
theorem dL_passes_195 : decode cL_passes 195 = .ok (.ireturn, 1) := by decide +kernel
theorem dL_passes_196 : decode cL_passes 196 = .ok (.iload_n 1, 1) := by decide +kernel
theorem dL_passes_197 : decode cL_passes 197 = .ok (.bipush 10, 2) := by decide +kernel
theorem dL_passes_199 : decode cL_passes 199 = .ok (.if_icmp .ge 63, 3) := by decide +kernel
theorem dL_passes_202 : decode cL_passes 202 = .ok (.iload 10, 2) := by decide +kernel
theorem dL_passes_204 : decode cL_passes 204 = .ok (.ifCond .eq 56, 3) := by decide +kernel
theorem dL_passes_207 : decode cL_passes 207 = .ok (.aload_n 0, 1) := by decide +kernel
theorem dL_passes_208 : decode cL_passes 208 = .ok (.bipush 9, 2) := by decide +kernel
theorem dL_passes_210 : decode cL_passes 210 = .ok (.invokevirtual 14, 3) := by decide +kernel
theorem dL_passes_213 : decode cL_passes 213 = .ok (.iload 5, 2) := by decide +kernel
theorem dL_passes_215 : decode cL_passes 215 = .ok (.if_icmp .ne 45, 3) := by decide +kernel
theorem dL_passes_218 : decode cL_passes 218 = .ok (.aload_n 0, 1) := by decide +kernel
theorem dL_passes_219 : decode cL_passes 219 = .ok (.bipush 6, 2) := by decide +kernel
theorem dL_passes_221 : decode cL_passes 221 = .ok (.invokevirtual 14, 3) := by decide +kernel
theorem dL_passes_224 : decode cL_passes 224 = .ok (.iload_n 3, 1) := by decide +kernel
theorem dL_passes_225 : decode cL_passes 225 = .ok (.iload_n 1, 1) := by decide +kernel
theorem dL_passes_226 : decode cL_passes 226 = .ok (.bipush 12, 2) := by decide +kernel
theorem dL_passes_228 : decode cL_passes 228 = .ok (.iload 5, 2) := by decide +kernel
theorem dL_passes_230 : decode cL_passes 230 = .ok (.invokestatic 30, 3) := by decide +kernel
theorem dL_passes_233 : decode cL_passes 233 = .ok (.isub, 1) := by decide +kernel
theorem dL_passes_234 : decode cL_passes 234 = .ok (.imul, 1) := by decide +kernel
theorem dL_passes_235 : decode cL_passes 235 = .ok (.iadd, 1) := by decide +kernel
theorem dL_passes_236 : decode cL_passes 236 = .ok (.if_icmp .ne 24, 3) := by decide +kernel
theorem dL_passes_239 : decode cL_passes 239 = .ok (.aload_n 0, 1) := by decide +kernel
theorem dL_passes_240 : decode cL_passes 240 = .ok (.bipush 7, 2) := by decide +kernel
theorem dL_passes_242 : decode cL_passes 242 = .ok (.invokevirtual 14, 3) := by decide +kernel
theorem dL_passes_245 : decode cL_passes 245 = .ok (.iload 4, 2) := by decide +kernel
theorem dL_passes_247 : decode cL_passes 247 = .ok (.if_icmp .ne 13, 3) := by decide +kernel
theorem dL_passes_250 : decode cL_passes 250 = .ok (.iload 9, 2) := by decide +kernel
theorem dL_passes_252 : decode cL_passes 252 = .ok (.iload_n 2, 1) := by decide +kernel
theorem dL_passes_253 : decode cL_passes 253 = .ok (.if_icmp .lt 7, 3) := by decide +kernel
theorem dL_passes_256 : decode cL_passes 256 = .ok (.iconst 1, 1) := by decide +kernel
theorem dL_passes_257 : decode cL_passes 257 = .ok (.goto 4, 3) := by decide +kernel
theorem dL_passes_260 : decode cL_passes 260 = .ok (.iconst 0, 1) := by decide +kernel
theorem dL_passes_261 : decode cL_passes 261 = .ok (.ireturn, 1) := by decide +kernel
theorem dL_passes_262 : decode cL_passes 262 = .ok (.iconst 0, 1) := by decide +kernel
theorem dL_passes_263 : decode cL_passes 263 = .ok (.istore 11, 2) := by decide +kernel
theorem dL_passes_265 : decode cL_passes 265 = .ok (.iload 11, 2) := by decide +kernel
theorem dL_passes_267 : decode cL_passes 267 = .ok (.bipush 12, 2) := by decide +kernel
theorem dL_passes_269 : decode cL_passes 269 = .ok (.if_icmp .ge 132, 3) := by decide +kernel
theorem dL_passes_272 : decode cL_passes 272 = .ok (.iload 10, 2) := by decide +kernel
theorem dL_passes_274 : decode cL_passes 274 = .ok (.ifCond .eq 127, 3) := by decide +kernel
theorem dL_passes_277 : decode cL_passes 277 = .ok (.aload_n 0, 1) := by decide +kernel
theorem dL_passes_278 : decode cL_passes 278 = .ok (.iload 11, 2) := by decide +kernel
theorem dL_passes_280 : decode cL_passes 280 = .ok (.iconst 1, 1) := by decide +kernel
theorem dL_passes_281 : decode cL_passes 281 = .ok (.invokevirtual 24, 3) := by decide +kernel
theorem dL_passes_284 : decode cL_passes 284 = .ok (.bipush 19, 2) := by decide +kernel
theorem dL_passes_286 : decode cL_passes 286 = .ok (.if_icmp .le 7, 3) := by decide +kernel
theorem dL_passes_289 : decode cL_passes 289 = .ok (.iconst 1, 1) := by decide +kernel
theorem dL_passes_290 : decode cL_passes 290 = .ok (.goto 4, 3) := by decide +kernel
theorem dL_passes_293 : decode cL_passes 293 = .ok (.iconst 0, 1) := by decide +kernel
theorem dL_passes_294 : decode cL_passes 294 = .ok (.istore 12, 2) := by decide +kernel
theorem dL_passes_296 : decode cL_passes 296 = .ok (.aload_n 0, 1) := by decide +kernel
theorem dL_passes_297 : decode cL_passes 297 = .ok (.iload 11, 2) := by decide +kernel
theorem dL_passes_299 : decode cL_passes 299 = .ok (.iconst 1, 1) := by decide +kernel
theorem dL_passes_300 : decode cL_passes 300 = .ok (.invokevirtual 24, 3) := by decide +kernel
theorem dL_passes_303 : decode cL_passes 303 = .ok (.aload_n 0, 1) := by decide +kernel
theorem dL_passes_304 : decode cL_passes 304 = .ok (.iconst 2, 1) := by decide +kernel
theorem dL_passes_305 : decode cL_passes 305 = .ok (.invokevirtual 14, 3) := by decide +kernel
theorem dL_passes_308 : decode cL_passes 308 = .ok (.if_icmp .lt 17, 3) := by decide +kernel
theorem dL_passes_311 : decode cL_passes 311 = .ok (.aload_n 0, 1) := by decide +kernel
theorem dL_passes_312 : decode cL_passes 312 = .ok (.iload 11, 2) := by decide +kernel
theorem dL_passes_314 : decode cL_passes 314 = .ok (.iconst 3, 1) := by decide +kernel
theorem dL_passes_315 : decode cL_passes 315 = .ok (.invokevirtual 24, 3) := by decide +kernel
theorem dL_passes_318 : decode cL_passes 318 = .ok (.ifCond .ne 7, 3) := by decide +kernel
theorem dL_passes_321 : decode cL_passes 321 = .ok (.iconst 1, 1) := by decide +kernel
theorem dL_passes_322 : decode cL_passes 322 = .ok (.goto 4, 3) := by decide +kernel
theorem dL_passes_325 : decode cL_passes 325 = .ok (.iconst 0, 1) := by decide +kernel
theorem dL_passes_326 : decode cL_passes 326 = .ok (.istore 13, 2) := by decide +kernel
theorem dL_passes_328 : decode cL_passes 328 = .ok (.iload_n 1, 1) := by decide +kernel
theorem dL_passes_329 : decode cL_passes 329 = .ok (.bipush 10, 2) := by decide +kernel
theorem dL_passes_331 : decode cL_passes 331 = .ok (.if_icmp .ne 37, 3) := by decide +kernel
theorem dL_passes_334 : decode cL_passes 334 = .ok (.aload_n 0, 1) := by decide +kernel
theorem dL_passes_335 : decode cL_passes 335 = .ok (.iload 11, 2) := by decide +kernel
theorem dL_passes_337 : decode cL_passes 337 = .ok (.iconst 3, 1) := by decide +kernel
theorem dL_passes_338 : decode cL_passes 338 = .ok (.invokevirtual 24, 3) := by decide +kernel
theorem dL_passes_341 : decode cL_passes 341 = .ok (.iload 12, 2) := by decide +kernel
theorem dL_passes_343 : decode cL_passes 343 = .ok (.ifCond .eq 13, 3) := by decide +kernel
theorem dL_passes_346 : decode cL_passes 346 = .ok (.iload 5, 2) := by decide +kernel
theorem dL_passes_348 : decode cL_passes 348 = .ok (.iload 11, 2) := by decide +kernel
theorem dL_passes_350 : decode cL_passes 350 = .ok (.ishr, 1) := by decide +kernel
theorem dL_passes_351 : decode cL_passes 351 = .ok (.iconst 1, 1) := by decide +kernel
theorem dL_passes_352 : decode cL_passes 352 = .ok (.iand, 1) := by decide +kernel
theorem dL_passes_353 : decode cL_passes 353 = .ok (.goto 4, 3) := by decide +kernel
theorem dL_passes_356 : decode cL_passes 356 = .ok (.iconst 1, 1) := by decide +kernel
theorem dL_passes_357 : decode cL_passes 357 = .ok (.if_icmp .ne 7, 3) := by decide +kernel
theorem dL_passes_360 : decode cL_passes 360 = .ok (.iconst 1, 1) := by decide +kernel
theorem dL_passes_361 : decode cL_passes 361 = .ok (.goto 32, 3) := by decide +kernel
theorem dL_passes_364 : decode cL_passes 364 = .ok (.iconst 0, 1) := by decide +kernel
theorem dL_passes_365 : decode cL_passes 365 = .ok (.goto 28, 3) := by decide +kernel
theorem dL_passes_368 : decode cL_passes 368 = .ok (.aload_n 0, 1) := by decide +kernel
theorem dL_passes_369 : decode cL_passes 369 = .ok (.iload 11, 2) := by decide +kernel
theorem dL_passes_371 : decode cL_passes 371 = .ok (.iconst 4, 1) := by decide +kernel
theorem dL_passes_372 : decode cL_passes 372 = .ok (.invokevirtual 24, 3) := by decide +kernel
theorem dL_passes_375 : decode cL_passes 375 = .ok (.iload 13, 2) := by decide +kernel
theorem dL_passes_377 : decode cL_passes 377 = .ok (.ifCond .eq 7, 3) := by decide +kernel
theorem dL_passes_380 : decode cL_passes 380 = .ok (.iconst 1, 1) := by decide +kernel
theorem dL_passes_381 : decode cL_passes 381 = .ok (.goto 4, 3) := by decide +kernel
theorem dL_passes_384 : decode cL_passes 384 = .ok (.iconst 0, 1) := by decide +kernel
theorem dL_passes_385 : decode cL_passes 385 = .ok (.if_icmp .ne 7, 3) := by decide +kernel
theorem dL_passes_388 : decode cL_passes 388 = .ok (.iconst 1, 1) := by decide +kernel
theorem dL_passes_389 : decode cL_passes 389 = .ok (.goto 4, 3) := by decide +kernel
theorem dL_passes_392 : decode cL_passes 392 = .ok (.iconst 0, 1) := by decide +kernel
theorem dL_passes_393 : decode cL_passes 393 = .ok (.istore 10, 2) := by decide +kernel
theorem dL_passes_395 : decode cL_passes 395 = .ok (.iinc 11 1, 3) := by decide +kernel
theorem dL_passes_398 : decode cL_passes 398 = .ok (.goto (-133), 3) := by decide +kernel
theorem dL_passes_401 : decode cL_passes 401 = .ok (.iload 10, 2) := by decide +kernel
theorem dL_passes_403 : decode cL_passes 403 = .ok (.ifCond .eq 51, 3) := by decide +kernel
theorem dL_passes_406 : decode cL_passes 406 = .ok (.iload 9, 2) := by decide +kernel
theorem dL_passes_408 : decode cL_passes 408 = .ok (.iload_n 2, 1) := by decide +kernel
theorem dL_passes_409 : decode cL_passes 409 = .ok (.if_icmp .ne 45, 3) := by decide +kernel
theorem dL_passes_412 : decode cL_passes 412 = .ok (.aload_n 0, 1) := by decide +kernel
theorem dL_passes_413 : decode cL_passes 413 = .ok (.bipush 6, 2) := by decide +kernel
theorem dL_passes_415 : decode cL_passes 415 = .ok (.invokevirtual 14, 3) := by decide +kernel
theorem dL_passes_418 : decode cL_passes 418 = .ok (.iload_n 3, 1) := by decide +kernel
theorem dL_passes_419 : decode cL_passes 419 = .ok (.if_icmp .ne 35, 3) := by decide +kernel
theorem dL_passes_422 : decode cL_passes 422 = .ok (.iload_n 1, 1) := by decide +kernel
theorem dL_passes_423 : decode cL_passes 423 = .ok (.bipush 10, 2) := by decide +kernel
theorem dL_passes_425 : decode cL_passes 425 = .ok (.if_icmp .eq 25, 3) := by decide +kernel
theorem dL_passes_428 : decode cL_passes 428 = .ok (.aload_n 0, 1) := by decide +kernel
theorem dL_passes_429 : decode cL_passes 429 = .ok (.bipush 9, 2) := by decide +kernel
theorem dL_passes_431 : decode cL_passes 431 = .ok (.invokevirtual 14, 3) := by decide +kernel
theorem dL_passes_434 : decode cL_passes 434 = .ok (.iload 5, 2) := by decide +kernel
theorem dL_passes_436 : decode cL_passes 436 = .ok (.if_icmp .ne 18, 3) := by decide +kernel
theorem dL_passes_439 : decode cL_passes 439 = .ok (.aload_n 0, 1) := by decide +kernel
theorem dL_passes_440 : decode cL_passes 440 = .ok (.bipush 11, 2) := by decide +kernel
theorem dL_passes_442 : decode cL_passes 442 = .ok (.invokevirtual 14, 3) := by decide +kernel
theorem dL_passes_445 : decode cL_passes 445 = .ok (.iload 7, 2) := by decide +kernel
theorem dL_passes_447 : decode cL_passes 447 = .ok (.if_icmp .gt 7, 3) := by decide +kernel
theorem dL_passes_450 : decode cL_passes 450 = .ok (.iconst 1, 1) := by decide +kernel
theorem dL_passes_451 : decode cL_passes 451 = .ok (.goto 4, 3) := by decide +kernel
theorem dL_passes_454 : decode cL_passes 454 = .ok (.iconst 0, 1) := by decide +kernel
theorem dL_passes_455 : decode cL_passes 455 = .ok (.ireturn, 1) := by decide +kernel
set_option maxRecDepth 20000 in
theorem ggL_act_L_passes : GoodIn wsL_act wsL_passes := goodIn_r _ [4, 5, 6, 7, 8, 9, 10, 11, 12, 13, 14, 15, 16, 17, 18, 19, 20, 21, 22, 23, 24, 25, 26, 27, 28, 29, 30, 31, 32, 33, 34, 35, 36, 37, 38, 39, 40, 41, 42, 43, 44, 45, 46, 47, 48, 49, 50, 51, 52, 53, 54, 55, 56, 57, 58, 59, 60, 61, 62, 63, 64, 65, 66, 67, 68, 69, 70, 71, 72, 73, 74, 75, 76, 77, 78, 79, 80, 81, 82, 83, 84, 85, 86, 87, 88, 89, 90, 91, 92, 93, 94, 95, 96, 97, 98, 99, 100, 101, 102, 103, 104, 105, 106, 107, 108, 109, 110, 111, 112, 113, 114, 115, 116, 117, 118, 119, 120, 121, 122, 123, 124, 125, 3, 126, 127, 128, 129, 130, 131, 132, 133, 134, 135, 136, 137, 138, 139, 140, 141, 142, 143, 144, 145, 253, 254, 255, 256, 257, 258, 259, 260, 261, 262, 263, 264, 265, 266, 267, 268, 269, 270, 271, 272, 273, 274, 275] (by decide +kernel) (by decide +kernel)
set_option maxRecDepth 20000 in
theorem gL_act_L_passes : GoodIn wsL_act (va_wsS RL 100 yL_passes wsL_passes) := goodIn_app (goodIn_of _ (by decide +kernel)) ggL_act_L_passes
set_option maxRecDepth 20000 in
theorem ggL_act_X4_cost : GoodIn wsL_act wsX4_cost := goodIn_r _ [149, 10, 150, 151, 8, 152, 133, 134, 135, 153, 154, 155, 31, 156, 157, 158, 96, 159, 160, 161, 162, 163, 164, 165, 74, 166, 167, 168, 169, 170, 139, 140, 141, 79, 102, 103, 37, 38, 39, 40, 41, 42, 43, 108, 109, 110, 111, 72, 98, 99, 100, 101, 78, 171, 172, 173, 174, 175, 176, 177, 70, 178, 179, 180, 181, 182, 183, 184, 185, 253, 254, 255, 256, 257, 258, 259, 260, 261, 262, 263, 264, 265, 266, 267, 268, 269, 270, 271] (by decide +kernel) (by decide +kernel)
set_option maxRecDepth 20000 in
theorem gL_act_X4_cost : GoodIn wsL_act (wsV RL 72 RX4 yX4_cost wsX4_cost) := goodIn_app (goodIn_of _ (by decide +kernel)) ggL_act_X4_cost
set_option maxRecDepth 20000 in
theorem ggL_act_X4_walker : GoodIn wsL_act wsX4_walker := goodIn_r _ [189, 10, 190, 19, 20, 191, 150, 151, 8, 152, 192, 34, 35, 31, 36, 37, 38, 39, 40, 41, 42, 43, 193, 194, 195, 196, 162, 163, 164, 165, 74, 166, 167, 168, 169, 170, 139, 140, 141, 79, 102, 103, 108, 109, 110, 111, 72, 98, 99, 100, 101, 78, 171, 172, 173, 253, 254, 255, 256, 257, 258, 259, 260, 261, 262, 263, 264, 265, 266, 267, 268, 269, 270, 271] (by decide +kernel) (by decide +kernel)
set_option maxRecDepth 20000 in
theorem gL_act_X4_walker : GoodIn wsL_act (wsV RL 27 RX4 yX4_walker wsX4_walker) := goodIn_app (goodIn_of _ (by decide +kernel)) ggL_act_X4_walker
set_option maxRecDepth 20000 in
theorem ggL_act_X4_walk : GoodIn wsL_act wsX4_walk := goodIn_r _ [200, 23, 10, 150, 151, 8, 152, 133, 134, 135, 55, 56, 57, 58, 59, 60, 61, 62, 63, 64, 65, 66, 67, 68, 31, 69, 70, 71, 72, 73, 74, 75, 76, 77, 41, 78, 79, 80, 81, 82, 83, 84, 85, 201, 183, 184, 185, 157, 158, 96, 159, 160, 161, 162, 163, 164, 165, 166, 167, 168, 169, 170, 139, 140, 141, 102, 103, 37, 38, 39, 40, 42, 43, 108, 109, 110, 111, 98, 99, 100, 101, 171, 172, 173, 202, 203, 204, 205, 206, 174, 175, 176, 177, 253, 254, 255, 256, 274, 275, 257, 258, 259, 260, 261, 262, 263, 264, 265, 266, 267, 268, 269, 270, 271] (by decide +kernel) (by decide +kernel)
set_option maxRecDepth 20000 in
theorem gL_act_X4_walk : GoodIn wsL_act (wsV RL 62 RX4 yX4_walk wsX4_walk) := goodIn_app (goodIn_of _ (by decide +kernel)) ggL_act_X4_walk
set_option maxRecDepth 20000 in
theorem ggL_act_X4_count : GoodIn wsL_act wsX4_count := goodIn_r _ [9, 10, 11, 12, 13, 14, 15, 16, 17, 18, 19, 20, 21, 22, 23, 24, 25, 26, 8, 27, 28, 29, 30, 31, 32, 33, 34, 35, 36, 37, 38, 39, 40, 41, 42, 43, 44, 45, 46, 47, 48, 49, 50, 253, 254, 255, 256, 257, 258, 259, 260, 261, 262, 263, 264, 265, 266, 267, 268, 269, 270, 271, 272, 273, 274, 275] (by decide +kernel) (by decide +kernel)
set_option maxRecDepth 20000 in
theorem gL_act_X4_count : GoodIn wsL_act (wsV RL 14 RX4 yX4_count wsX4_count) := goodIn_app (goodIn_of _ (by decide +kernel)) ggL_act_X4_count
set_option maxRecDepth 20000 in
theorem ggL_act_X4_puddle : GoodIn wsL_act wsX4_puddle := goodIn_r _ [130, 10, 131, 13, 132, 133, 134, 8, 135, 136, 109, 110, 31, 111, 72, 137, 99, 100, 101, 78, 102, 103, 138, 139, 140, 141, 79, 142, 143, 144, 145, 37, 38, 39, 40, 41, 42, 43, 253, 254, 255, 256, 257, 258, 259, 260, 261, 262, 263, 264, 265, 266, 267, 268, 269, 270, 271] (by decide +kernel) (by decide +kernel)
set_option maxRecDepth 20000 in
theorem gL_act_X4_puddle : GoodIn wsL_act (wsV RL 24 RX4 yX4_puddle wsX4_puddle) := goodIn_app (goodIn_of _ (by decide +kernel)) ggL_act_X4_puddle
set_option maxRecDepth 20000 in
theorem ggL_act_X4_brim : GoodIn wsL_act wsX4_brim := goodIn_r _ [210, 23, 10, 131, 133, 134, 8, 135, 55, 56, 57, 58, 59, 60, 61, 62, 63, 64, 65, 66, 67, 68, 31, 69, 70, 71, 72, 73, 74, 75, 76, 77, 41, 78, 79, 80, 81, 82, 83, 84, 85, 211, 212, 213, 214, 253, 254, 255, 256, 257, 258, 259, 260, 261, 262, 263, 264, 265, 266, 267, 268, 269, 270, 271, 274, 275] (by decide +kernel) (by decide +kernel)
set_option maxRecDepth 20000 in
theorem gL_act_X4_brim : GoodIn wsL_act (wsV RL 50 RX4 yX4_brim wsX4_brim) := goodIn_app (goodIn_of _ (by decide +kernel)) ggL_act_X4_brim
set_option maxRecDepth 20000 in
theorem ggL_act_X4_drain : GoodIn wsL_act wsX4_drain := goodIn_r _ [218, 10, 23, 13, 133, 134, 8, 135, 138, 139, 140, 31, 141, 79, 102, 103, 55, 56, 57, 58, 59, 60, 61, 62, 63, 64, 65, 66, 67, 68, 69, 70, 71, 72, 73, 74, 75, 76, 77, 41, 78, 80, 81, 82, 83, 84, 85, 211, 212, 213, 214, 219, 220, 221, 222, 253, 254, 255, 256, 257, 258, 259, 260, 261, 262, 263, 264, 265, 266, 267, 268, 269, 270, 271, 274, 275] (by decide +kernel) (by decide +kernel)
set_option maxRecDepth 20000 in
theorem gL_act_X4_drain : GoodIn wsL_act (wsV RL 53 RX4 yX4_drain wsX4_drain) := goodIn_app (goodIn_of _ (by decide +kernel)) ggL_act_X4_drain
set_option maxRecDepth 20000 in
theorem ggL_act_X4_shoes : GoodIn wsL_act wsX4_shoes := goodIn_r _ [226, 23, 10, 190, 150, 151, 8, 152, 55, 56, 57, 58, 59, 60, 61, 62, 63, 64, 65, 66, 67, 68, 31, 69, 70, 71, 72, 73, 74, 75, 76, 77, 41, 78, 79, 80, 81, 82, 83, 84, 85, 253, 254, 255, 256, 257, 258, 259, 260, 261, 262, 263, 264, 265, 266, 267, 268, 269, 270, 271, 274, 275] (by decide +kernel) (by decide +kernel)
set_option maxRecDepth 20000 in
theorem gL_act_X4_shoes : GoodIn wsL_act (wsV RL 59 RX4 yX4_shoes wsX4_shoes) := goodIn_app (goodIn_of _ (by decide +kernel)) ggL_act_X4_shoes
set_option maxRecDepth 20000 in
theorem ggL_act_X4_permit : GoodIn wsL_act wsX4_permit := goodIn_r _ [230, 10, 23, 231, 11, 150, 151, 8, 152, 133, 134, 135, 138, 139, 140, 31, 141, 79, 102, 103, 55, 56, 57, 58, 59, 60, 61, 62, 63, 64, 65, 66, 67, 68, 69, 70, 71, 72, 73, 74, 75, 76, 77, 41, 78, 80, 81, 82, 83, 84, 85, 232, 42, 43, 192, 34, 35, 36, 37, 38, 39, 40, 233, 45, 46, 47, 48, 49, 50, 253, 254, 255, 256, 257, 258, 259, 260, 261, 262, 263, 264, 265, 266, 267, 268, 269, 270, 271, 274, 275] (by decide +kernel) (by decide +kernel)
set_option maxRecDepth 20000 in
theorem gL_act_X4_permit : GoodIn wsL_act (wsV RL 56 RX4 yX4_permit wsX4_permit) := goodIn_app (goodIn_of _ (by decide +kernel)) ggL_act_X4_permit
set_option maxRecDepth 20000 in
theorem ggL_act_L_size : GoodIn wsL_act wsL_size := goodIn_r _ [126] (by decide +kernel) (by decide +kernel)
set_option maxRecDepth 20000 in
theorem gL_act_L_size : GoodIn wsL_act (va_wsS RL 30 yL_size wsL_size) := goodIn_app (goodIn_of _ (by decide +kernel)) ggL_act_L_size
set_option maxRecDepth 20000 in
theorem ggL_act_X4_holds : GoodIn wsL_act wsX4_holds := goodIn_r _ [237, 10, 231, 150, 151, 8, 152, 133, 134, 135, 232, 42, 43, 253, 254, 255, 256, 257, 258, 259, 260, 261, 262, 263, 264, 265, 266, 267, 268, 269, 270, 271] (by decide +kernel) (by decide +kernel)
set_option maxRecDepth 20000 in
theorem gL_act_X4_holds : GoodIn wsL_act (wsV RL 20 RX4 yX4_holds wsX4_holds) := goodIn_app (goodIn_of _ (by decide +kernel)) ggL_act_X4_holds
set_option maxRecDepth 20000 in
theorem ggL_act_X4_why : GoodIn wsL_act wsX4_why := goodIn_r _ [241, 10, 190, 150, 151, 8, 152, 133, 134, 135, 242, 167, 168, 31, 169, 170, 139, 140, 141, 79, 102, 103, 37, 38, 39, 40, 41, 42, 43, 108, 109, 110, 111, 72, 98, 99, 100, 101, 78, 171, 172, 173, 253, 254, 255, 256, 257, 258, 259, 260, 261, 262, 263, 264, 265, 266, 267, 268, 269, 270, 271] (by decide +kernel) (by decide +kernel)
set_option maxRecDepth 20000 in
theorem gL_act_X4_why : GoodIn wsL_act (wsV RL 44 RX4 yX4_why wsX4_why) := goodIn_app (goodIn_of _ (by decide +kernel)) ggL_act_X4_why
set_option maxRecDepth 20000 in
theorem ggL_act_X4_pay : GoodIn wsL_act wsX4_pay := goodIn_r _ [246, 23, 10, 19, 20, 150, 151, 8, 152, 55, 56, 57, 58, 59, 60, 61, 62, 63, 64, 65, 66, 67, 68, 31, 69, 70, 71, 72, 73, 74, 75, 76, 77, 41, 78, 79, 80, 81, 82, 83, 84, 85, 253, 254, 255, 256, 257, 258, 259, 260, 261, 262, 263, 264, 265, 266, 267, 268, 269, 270, 271, 274, 275] (by decide +kernel) (by decide +kernel)
set_option maxRecDepth 20000 in
theorem gL_act_X4_pay : GoodIn wsL_act (wsV RL 66 RX4 yX4_pay wsX4_pay) := goodIn_app (goodIn_of _ (by decide +kernel)) ggL_act_X4_pay
set_option maxRecDepth 20000 in
theorem ggL_act_X4_set : GoodIn wsL_act wsX4_set := goodIn_r _ [250, 251, 252, 23, 10, 11, 55, 56, 57, 58, 59, 60, 61, 62, 63, 64, 65, 66, 67, 68, 31, 69, 70, 71, 72, 73, 74, 75, 76, 77, 41, 78, 79, 80, 81, 82, 83, 84, 8, 85, 253, 254, 255, 256, 257, 258, 259, 260, 261, 262, 263, 264, 265, 266, 267, 268, 269, 270, 271, 274, 275] (by decide +kernel) (by decide +kernel)
set_option maxRecDepth 20000 in
theorem gL_act_X4_set : GoodIn wsL_act (wsV RL 47 RX4 yX4_set wsX4_set) := goodIn_app (goodIn_of _ (by decide +kernel)) ggL_act_X4_set
theorem dL_act_0 : decode cL_act 0 = .ok (.iload_n 1, 1) := by decide +kernel
theorem dL_act_1 : decode cL_act 1 = .ok (.bipush 16, 2) := by decide +kernel
theorem dL_act_3 : decode cL_act 3 = .ok (.irem, 1) := by decide +kernel
theorem dL_act_4 : decode cL_act 4 = .ok (.istore_n 2, 1) := by decide +kernel
theorem dL_act_5 : decode cL_act 5 = .ok (.iload_n 1, 1) := by decide +kernel
theorem dL_act_6 : decode cL_act 6 = .ok (.bipush 16, 2) := by decide +kernel
theorem dL_act_8 : decode cL_act 8 = .ok (.idiv, 1) := by decide +kernel
theorem dL_act_9 : decode cL_act 9 = .ok (.istore_n 3, 1) := by decide +kernel
theorem dL_act_10 : decode cL_act 10 = .ok (.iload_n 3, 1) := by decide +kernel
theorem dL_act_11 : decode cL_act 11 = .ok (.bipush 12, 2) := by decide +kernel
theorem dL_act_13 : decode cL_act 13 = .ok (.irem, 1) := by decide +kernel
theorem dL_act_14 : decode cL_act 14 = .ok (.istore 4, 2) := by decide +kernel
theorem dL_act_16 : decode cL_act 16 = .ok (.iload_n 3, 1) := by decide +kernel
theorem dL_act_17 : decode cL_act 17 = .ok (.bipush 12, 2) := by decide +kernel
theorem dL_act_19 : decode cL_act 19 = .ok (.idiv, 1) := by decide +kernel
theorem dL_act_20 : decode cL_act 20 = .ok (.bipush 6, 2) := by decide +kernel
theorem dL_act_22 : decode cL_act 22 = .ok (.irem, 1) := by decide +kernel
theorem dL_act_23 : decode cL_act 23 = .ok (.istore 5, 2) := by decide +kernel
theorem dL_act_25 : decode cL_act 25 = .ok (.iload_n 2, 1) := by decide +kernel
theorem dL_act_26 : decode cL_act 26 = .ok (.bipush 7, 2) := by decide +kernel
theorem dL_act_28 : decode cL_act 28 = .ok (.if_icmp .ge 64, 3) := by decide +kernel
theorem dL_act_31 : decode cL_act 31 = .ok (.aload_n 0, 1) := by decide +kernel
theorem dL_act_32 : decode cL_act 32 = .ok (.iload_n 3, 1) := by decide +kernel
theorem dL_act_33 : decode cL_act 33 = .ok (.bipush 8, 2) := by decide +kernel
theorem dL_act_35 : decode cL_act 35 = .ok (.irem, 1) := by decide +kernel
theorem dL_act_36 : decode cL_act 36 = .ok (.iconst 4, 1) := by decide +kernel
theorem dL_act_37 : decode cL_act 37 = .ok (.if_icmp .ge 15, 3) := by decide +kernel
theorem dL_act_40 : decode cL_act 40 = .ok (.iconst 1, 1) := by decide +kernel
theorem dL_act_41 : decode cL_act 41 = .ok (.iload_n 3, 1) := by decide +kernel
theorem dL_act_42 : decode cL_act 42 = .ok (.bipush 8, 2) := by decide +kernel
theorem dL_act_44 : decode cL_act 44 = .ok (.idiv, 1) := by decide +kernel
theorem dL_act_45 : decode cL_act 45 = .ok (.bipush 9, 2) := by decide +kernel
theorem dL_act_47 : decode cL_act 47 = .ok (.irem, 1) := by decide +kernel
theorem dL_act_48 : decode cL_act 48 = .ok (.iadd, 1) := by decide +kernel
theorem dL_act_49 : decode cL_act 49 = .ok (.goto 30, 3) := by decide +kernel
theorem dL_act_52 : decode cL_act 52 = .ok (.iload_n 3, 1) := by decide +kernel
theorem dL_act_53 : decode cL_act 53 = .ok (.bipush 8, 2) := by decide +kernel
theorem dL_act_55 : decode cL_act 55 = .ok (.irem, 1) := by decide +kernel
theorem dL_act_56 : decode cL_act 56 = .ok (.iconst 4, 1) := by decide +kernel
theorem dL_act_57 : decode cL_act 57 = .ok (.if_icmp .ne 7, 3) := by decide +kernel
theorem dL_act_60 : decode cL_act 60 = .ok (.iconst 0, 1) := by decide +kernel
theorem dL_act_61 : decode cL_act 61 = .ok (.goto 18, 3) := by decide +kernel
theorem dL_act_64 : decode cL_act 64 = .ok (.iload_n 3, 1) := by decide +kernel
theorem dL_act_65 : decode cL_act 65 = .ok (.bipush 8, 2) := by decide +kernel
theorem dL_act_67 : decode cL_act 67 = .ok (.irem, 1) := by decide +kernel
theorem dL_act_68 : decode cL_act 68 = .ok (.iconst 5, 1) := by decide +kernel
theorem dL_act_69 : decode cL_act 69 = .ok (.if_icmp .ne 8, 3) := by decide +kernel
theorem dL_act_72 : decode cL_act 72 = .ok (.bipush 10, 2) := by decide +kernel
theorem dL_act_74 : decode cL_act 74 = .ok (.goto 5, 3) := by decide +kernel
theorem dL_act_77 : decode cL_act 77 = .ok (.bipush 11, 2) := by decide +kernel
theorem dL_act_79 : decode cL_act 79 = .ok (.invokestatic 100, 3) := by decide +kernel
theorem dL_act_82 : decode cL_act 82 = .ok (.ifCond .eq 7, 3) := by decide +kernel
theorem dL_act_85 : decode cL_act 85 = .ok (.iconst 1, 1) := by decide +kernel
theorem dL_act_86 : decode cL_act 86 = .ok (.goto 5, 3) := by decide +kernel
theorem dL_act_89 : decode cL_act 89 = .ok (.bipush (-9), 2) := by decide +kernel
theorem dL_act_91 : decode cL_act 91 = .ok (.ireturn, 1) := by decide +kernel
theorem dL_act_92 : decode cL_act 92 = .ok (.iload_n 2, 1) := by decide +kernel
theorem dL_act_93 : decode cL_act 93 = .ok (.bipush 10, 2) := by decide +kernel
theorem dL_act_95 : decode cL_act 95 = .ok (.if_icmp .ge 114, 3) := by decide +kernel
theorem dL_act_98 : decode cL_act 98 = .ok (.iload_n 3, 1) := by decide +kernel
theorem dL_act_99 : decode cL_act 99 = .ok (.bipush 72, 2) := by decide +kernel
theorem dL_act_101 : decode cL_act 101 = .ok (.idiv, 1) := by decide +kernel
theorem dL_act_102 : decode cL_act 102 = .ok (.bipush 12, 2) := by decide +kernel
theorem dL_act_104 : decode cL_act 104 = .ok (.irem, 1) := by decide +kernel
theorem dL_act_105 : decode cL_act 105 = .ok (.istore 6, 2) := by decide +kernel
theorem dL_act_107 : decode cL_act 107 = .ok (.aload_n 0, 1) := by decide +kernel
theorem dL_act_108 : decode cL_act 108 = .ok (.iload 5, 2) := by decide +kernel
theorem dL_act_110 : decode cL_act 110 = .ok (.iload 4, 2) := by decide +kernel
theorem dL_act_112 : decode cL_act 112 = .ok (.iload 6, 2) := by decide +kernel
theorem dL_act_114 : decode cL_act 114 = .ok (.iconst 1, 1) := by decide +kernel
theorem dL_act_115 : decode cL_act 115 = .ok (.invokevirtual 72, 3) := by decide +kernel
theorem dL_act_118 : decode cL_act 118 = .ok (.istore 7, 2) := by decide +kernel
theorem dL_act_120 : decode cL_act 120 = .ok (.aload_n 0, 1) := by decide +kernel
theorem dL_act_121 : decode cL_act 121 = .ok (.iload 5, 2) := by decide +kernel
theorem dL_act_123 : decode cL_act 123 = .ok (.iconst 1, 1) := by decide +kernel
theorem dL_act_124 : decode cL_act 124 = .ok (.invokevirtual 27, 3) := by decide +kernel
theorem dL_act_127 : decode cL_act 127 = .ok (.istore 8, 2) := by decide +kernel
theorem dL_act_129 : decode cL_act 129 = .ok (.aload_n 0, 1) := by decide +kernel
theorem dL_act_130 : decode cL_act 130 = .ok (.iload 5, 2) := by decide +kernel
theorem dL_act_132 : decode cL_act 132 = .ok (.iconst 3, 1) := by decide +kernel
theorem dL_act_133 : decode cL_act 133 = .ok (.invokevirtual 27, 3) := by decide +kernel
theorem dL_act_136 : decode cL_act 136 = .ok (.istore 9, 2) := by decide +kernel
theorem dL_act_138 : decode cL_act 138 = .ok (.aload_n 0, 1) := by decide +kernel
theorem dL_act_139 : decode cL_act 139 = .ok (.iload 5, 2) := by decide +kernel
theorem dL_act_141 : decode cL_act 141 = .ok (.iload 4, 2) := by decide +kernel
theorem dL_act_143 : decode cL_act 143 = .ok (.iload 6, 2) := by decide +kernel
theorem dL_act_145 : decode cL_act 145 = .ok (.invokevirtual 62, 3) := by decide +kernel
theorem dL_act_148 : decode cL_act 148 = .ok (.istore 10, 2) := by decide +kernel
theorem dL_act_150 : decode cL_act 150 = .ok (.iload 10, 2) := by decide +kernel
theorem dL_act_152 : decode cL_act 152 = .ok (.ifCond .lt 54, 3) := by decide +kernel
theorem dL_act_155 : decode cL_act 155 = .ok (.iload 10, 2) := by decide +kernel
theorem dL_act_157 : decode cL_act 157 = .ok (.bipush 12, 2) := by decide +kernel
theorem dL_act_159 : decode cL_act 159 = .ok (.if_icmp .gt 47, 3) := by decide +kernel
theorem dL_act_162 : decode cL_act 162 = .ok (.aload_n 0, 1) := by decide +kernel
theorem dL_act_163 : decode cL_act 163 = .ok (.iload 5, 2) := by decide +kernel
theorem dL_act_165 : decode cL_act 165 = .ok (.iconst 1, 1) := by decide +kernel
theorem dL_act_166 : decode cL_act 166 = .ok (.invokevirtual 27, 3) := by decide +kernel
theorem dL_act_169 : decode cL_act 169 = .ok (.iload 8, 2) := by decide +kernel
theorem dL_act_171 : decode cL_act 171 = .ok (.iload 7, 2) := by decide +kernel
theorem dL_act_173 : decode cL_act 173 = .ok (.iadd, 1) := by decide +kernel
theorem dL_act_174 : decode cL_act 174 = .ok (.if_icmp .ne 32, 3) := by decide +kernel
theorem dL_act_177 : decode cL_act 177 = .ok (.aload_n 0, 1) := by decide +kernel
theorem dL_act_178 : decode cL_act 178 = .ok (.iload 5, 2) := by decide +kernel
theorem dL_act_180 : decode cL_act 180 = .ok (.iconst 3, 1) := by decide +kernel
theorem dL_act_181 : decode cL_act 181 = .ok (.invokevirtual 27, 3) := by decide +kernel
theorem dL_act_184 : decode cL_act 184 = .ok (.iload 9, 2) := by decide +kernel
theorem dL_act_186 : decode cL_act 186 = .ok (.iload 10, 2) := by decide +kernel
theorem dL_act_188 : decode cL_act 188 = .ok (.iadd, 1) := by decide +kernel
theorem dL_act_189 : decode cL_act 189 = .ok (.if_icmp .ne 17, 3) := by decide +kernel
theorem dL_act_192 : decode cL_act 192 = .ok (.iload 10, 2) := by decide +kernel
theorem dL_act_194 : decode cL_act 194 = .ok (.ifCond .gt 8, 3) := by decide +kernel
theorem dL_act_197 : decode cL_act 197 = .ok (.iload 7, 2) := by decide +kernel
theorem dL_act_199 : decode cL_act 199 = .ok (.ifCond .ne 7, 3) := by decide +kernel
theorem dL_act_202 : decode cL_act 202 = .ok (.iconst 1, 1) := by decide +kernel
theorem dL_act_203 : decode cL_act 203 = .ok (.goto 5, 3) := by decide +kernel
theorem dL_act_206 : decode cL_act 206 = .ok (.bipush (-9), 2) := by decide +kernel
theorem dL_act_208 : decode cL_act 208 = .ok (.ireturn, 1) := by decide +kernel
theorem dL_act_209 : decode cL_act 209 = .ok (.aload_n 0, 1) := by decide +kernel
theorem dL_act_210 : decode cL_act 210 = .ok (.bipush 10, 2) := by decide +kernel
theorem dL_act_212 : decode cL_act 212 = .ok (.invokevirtual 14, 3) := by decide +kernel
theorem dL_act_215 : decode cL_act 215 = .ok (.iload 4, 2) := by decide +kernel
theorem dL_act_217 : decode cL_act 217 = .ok (.ishr, 1) := by decide +kernel
theorem dL_act_218 : decode cL_act 218 = .ok (.iconst 1, 1) := by decide +kernel
theorem dL_act_219 : decode cL_act 219 = .ok (.iand, 1) := by decide +kernel
theorem dL_act_220 : decode cL_act 220 = .ok (.iconst 1, 1) := by decide +kernel
theorem dL_act_221 : decode cL_act 221 = .ok (.if_icmp .ne 7, 3) := by decide +kernel
theorem dL_act_224 : decode cL_act 224 = .ok (.iconst 1, 1) := by decide +kernel
theorem dL_act_225 : decode cL_act 225 = .ok (.goto 4, 3) := by decide +kernel
theorem dL_act_228 : decode cL_act 228 = .ok (.iconst 0, 1) := by decide +kernel
theorem dL_act_229 : decode cL_act 229 = .ok (.istore 6, 2) := by decide +kernel
theorem dL_act_231 : decode cL_act 231 = .ok (.iload_n 2, 1) := by decide +kernel
theorem dL_act_232 : decode cL_act 232 = .ok (.bipush 10, 2) := by decide +kernel
theorem dL_act_234 : decode cL_act 234 = .ok (.if_icmp .ne 88, 3) := by decide +kernel
theorem dL_act_237 : decode cL_act 237 = .ok (.iconst 1, 1) := by decide +kernel
theorem dL_act_238 : decode cL_act 238 = .ok (.iload_n 3, 1) := by decide +kernel
theorem dL_act_239 : decode cL_act 239 = .ok (.bipush 72, 2) := by decide +kernel
theorem dL_act_241 : decode cL_act 241 = .ok (.idiv, 1) := by decide +kernel
theorem dL_act_242 : decode cL_act 242 = .ok (.bipush 60, 2) := by decide +kernel
theorem dL_act_244 : decode cL_act 244 = .ok (.irem, 1) := by decide +kernel
theorem dL_act_245 : decode cL_act 245 = .ok (.iadd, 1) := by decide +kernel
theorem dL_act_246 : decode cL_act 246 = .ok (.istore 7, 2) := by decide +kernel
theorem dL_act_248 : decode cL_act 248 = .ok (.aload_n 0, 1) := by decide +kernel
theorem dL_act_249 : decode cL_act 249 = .ok (.iload 4, 2) := by decide +kernel
theorem dL_act_251 : decode cL_act 251 = .ok (.iconst 0, 1) := by decide +kernel
theorem dL_act_252 : decode cL_act 252 = .ok (.invokevirtual 24, 3) := by decide +kernel
theorem dL_act_255 : decode cL_act 255 = .ok (.istore 8, 2) := by decide +kernel
theorem dL_act_257 : decode cL_act 257 = .ok (.aload_n 0, 1) := by decide +kernel
theorem dL_act_258 : decode cL_act 258 = .ok (.iload 4, 2) := by decide +kernel
theorem dL_act_260 : decode cL_act 260 = .ok (.iconst 1, 1) := by decide +kernel
theorem dL_act_261 : decode cL_act 261 = .ok (.invokevirtual 24, 3) := by decide +kernel
theorem dL_act_264 : decode cL_act 264 = .ok (.istore 9, 2) := by decide +kernel
theorem dL_act_266 : decode cL_act 266 = .ok (.aload_n 0, 1) := by decide +kernel
theorem dL_act_267 : decode cL_act 267 = .ok (.iload 4, 2) := by decide +kernel
theorem dL_act_269 : decode cL_act 269 = .ok (.iload 7, 2) := by decide +kernel
theorem dL_act_271 : decode cL_act 271 = .ok (.invokevirtual 50, 3) := by decide +kernel
theorem dL_act_274 : decode cL_act 274 = .ok (.iload 8, 2) := by decide +kernel
theorem dL_act_276 : decode cL_act 276 = .ok (.if_icmp .ne 43, 3) := by decide +kernel
theorem dL_act_279 : decode cL_act 279 = .ok (.aload_n 0, 1) := by decide +kernel
theorem dL_act_280 : decode cL_act 280 = .ok (.iload 4, 2) := by decide +kernel
theorem dL_act_282 : decode cL_act 282 = .ok (.iconst 0, 1) := by decide +kernel
theorem dL_act_283 : decode cL_act 283 = .ok (.invokevirtual 24, 3) := by decide +kernel
theorem dL_act_286 : decode cL_act 286 = .ok (.iload 7, 2) := by decide +kernel
theorem dL_act_288 : decode cL_act 288 = .ok (.if_icmp .ne 31, 3) := by decide +kernel
theorem dL_act_291 : decode cL_act 291 = .ok (.aload_n 0, 1) := by decide +kernel
theorem dL_act_292 : decode cL_act 292 = .ok (.iload 4, 2) := by decide +kernel
theorem dL_act_294 : decode cL_act 294 = .ok (.iconst 1, 1) := by decide +kernel
theorem dL_act_295 : decode cL_act 295 = .ok (.invokevirtual 24, 3) := by decide +kernel
theorem dL_act_298 : decode cL_act 298 = .ok (.iload 9, 2) := by decide +kernel
theorem dL_act_300 : decode cL_act 300 = .ok (.iload 7, 2) := by decide +kernel
theorem dL_act_302 : decode cL_act 302 = .ok (.if_icmp .ge 8, 3) := by decide +kernel
theorem dL_act_305 : decode cL_act 305 = .ok (.iload 9, 2) := by decide +kernel
theorem dL_act_307 : decode cL_act 307 = .ok (.goto 5, 3) := by decide +kernel
theorem dL_act_310 : decode cL_act 310 = .ok (.iload 7, 2) := by decide +kernel
theorem dL_act_312 : decode cL_act 312 = .ok (.if_icmp .ne 7, 3) := by decide +kernel
theorem dL_act_315 : decode cL_act 315 = .ok (.iconst 1, 1) := by decide +kernel
theorem dL_act_316 : decode cL_act 316 = .ok (.goto 5, 3) := by decide +kernel
theorem dL_act_319 : decode cL_act 319 = .ok (.bipush (-9), 2) := by decide +kernel
theorem dL_act_321 : decode cL_act 321 = .ok (.ireturn, 1) := by decide +kernel
theorem dL_act_322 : decode cL_act 322 = .ok (.iload_n 2, 1) := by decide +kernel
theorem dL_act_323 : decode cL_act 323 = .ok (.bipush 11, 2) := by decide +kernel
theorem dL_act_325 : decode cL_act 325 = .ok (.if_icmp .ne 75, 3) := by decide +kernel
theorem dL_act_328 : decode cL_act 328 = .ok (.aload_n 0, 1) := by decide +kernel
theorem dL_act_329 : decode cL_act 329 = .ok (.iload 4, 2) := by decide +kernel
theorem dL_act_331 : decode cL_act 331 = .ok (.iconst 1, 1) := by decide +kernel
theorem dL_act_332 : decode cL_act 332 = .ok (.invokevirtual 24, 3) := by decide +kernel
theorem dL_act_335 : decode cL_act 335 = .ok (.istore 7, 2) := by decide +kernel
theorem dL_act_337 : decode cL_act 337 = .ok (.aload_n 0, 1) := by decide +kernel
theorem dL_act_338 : decode cL_act 338 = .ok (.iload 4, 2) := by decide +kernel
theorem dL_act_340 : decode cL_act 340 = .ok (.invokevirtual 53, 3) := by decide +kernel
theorem dL_act_343 : decode cL_act 343 = .ok (.istore 8, 2) := by decide +kernel
theorem dL_act_345 : decode cL_act 345 = .ok (.iload 6, 2) := by decide +kernel
theorem dL_act_347 : decode cL_act 347 = .ok (.ifCond .eq 19, 3) := by decide +kernel
theorem dL_act_350 : decode cL_act 350 = .ok (.iload 8, 2) := by decide +kernel
theorem dL_act_352 : decode cL_act 352 = .ok (.bipush (-5), 2) := by decide +kernel
theorem dL_act_354 : decode cL_act 354 = .ok (.if_icmp .ne 7, 3) := by decide +kernel
theorem dL_act_357 : decode cL_act 357 = .ok (.iconst 0, 1) := by decide +kernel
theorem dL_act_358 : decode cL_act 358 = .ok (.goto 41, 3) := by decide +kernel
theorem dL_act_361 : decode cL_act 361 = .ok (.bipush (-9), 2) := by decide +kernel
theorem dL_act_363 : decode cL_act 363 = .ok (.goto 36, 3) := by decide +kernel
theorem dL_act_366 : decode cL_act 366 = .ok (.iload 8, 2) := by decide +kernel
theorem dL_act_368 : decode cL_act 368 = .ok (.iload 7, 2) := by decide +kernel
theorem dL_act_370 : decode cL_act 370 = .ok (.if_icmp .ne 27, 3) := by decide +kernel
theorem dL_act_373 : decode cL_act 373 = .ok (.aload_n 0, 1) := by decide +kernel
theorem dL_act_374 : decode cL_act 374 = .ok (.iload 4, 2) := by decide +kernel
theorem dL_act_376 : decode cL_act 376 = .ok (.iconst 1, 1) := by decide +kernel
theorem dL_act_377 : decode cL_act 377 = .ok (.invokevirtual 24, 3) := by decide +kernel
theorem dL_act_380 : decode cL_act 380 = .ok (.ifCond .ne 17, 3) := by decide +kernel
theorem dL_act_383 : decode cL_act 383 = .ok (.aload_n 0, 1) := by decide +kernel
theorem dL_act_384 : decode cL_act 384 = .ok (.iload 4, 2) := by decide +kernel
theorem dL_act_386 : decode cL_act 386 = .ok (.iconst 3, 1) := by decide +kernel
theorem dL_act_387 : decode cL_act 387 = .ok (.invokevirtual 24, 3) := by decide +kernel
theorem dL_act_390 : decode cL_act 390 = .ok (.ifCond .ne 7, 3) := by decide +kernel
theorem dL_act_393 : decode cL_act 393 = .ok (.iconst 1, 1) := by decide +kernel
theorem dL_act_394 : decode cL_act 394 = .ok (.goto 5, 3) := by decide +kernel
theorem dL_act_397 : decode cL_act 397 = .ok (.bipush (-9), 2) := by decide +kernel
theorem dL_act_399 : decode cL_act 399 = .ok (.ireturn, 1) := by decide +kernel
theorem dL_act_400 : decode cL_act 400 = .ok (.iload_n 2, 1) := by decide +kernel
theorem dL_act_401 : decode cL_act 401 = .ok (.bipush 12, 2) := by decide +kernel
theorem dL_act_403 : decode cL_act 403 = .ok (.if_icmp .ne 48, 3) := by decide +kernel
theorem dL_act_406 : decode cL_act 406 = .ok (.aload_n 0, 1) := by decide +kernel
theorem dL_act_407 : decode cL_act 407 = .ok (.iload 5, 2) := by decide +kernel
theorem dL_act_409 : decode cL_act 409 = .ok (.iconst 0, 1) := by decide +kernel
theorem dL_act_410 : decode cL_act 410 = .ok (.invokevirtual 27, 3) := by decide +kernel
theorem dL_act_413 : decode cL_act 413 = .ok (.istore 7, 2) := by decide +kernel
theorem dL_act_415 : decode cL_act 415 = .ok (.aload_n 0, 1) := by decide +kernel
theorem dL_act_416 : decode cL_act 416 = .ok (.iload 5, 2) := by decide +kernel
theorem dL_act_418 : decode cL_act 418 = .ok (.iload 4, 2) := by decide +kernel
theorem dL_act_420 : decode cL_act 420 = .ok (.iconst 4, 1) := by decide +kernel
theorem dL_act_421 : decode cL_act 421 = .ok (.irem, 1) := by decide +kernel
theorem dL_act_422 : decode cL_act 422 = .ok (.invokevirtual 59, 3) := by decide +kernel
theorem dL_act_425 : decode cL_act 425 = .ok (.iload 7, 2) := by decide +kernel
theorem dL_act_427 : decode cL_act 427 = .ok (.if_icmp .ne 21, 3) := by decide +kernel
theorem dL_act_430 : decode cL_act 430 = .ok (.aload_n 0, 1) := by decide +kernel
theorem dL_act_431 : decode cL_act 431 = .ok (.iload 5, 2) := by decide +kernel
theorem dL_act_433 : decode cL_act 433 = .ok (.iconst 0, 1) := by decide +kernel
theorem dL_act_434 : decode cL_act 434 = .ok (.invokevirtual 27, 3) := by decide +kernel
theorem dL_act_437 : decode cL_act 437 = .ok (.iload 4, 2) := by decide +kernel
theorem dL_act_439 : decode cL_act 439 = .ok (.iconst 4, 1) := by decide +kernel
theorem dL_act_440 : decode cL_act 440 = .ok (.irem, 1) := by decide +kernel
theorem dL_act_441 : decode cL_act 441 = .ok (.if_icmp .ne 7, 3) := by decide +kernel
theorem dL_act_444 : decode cL_act 444 = .ok (.iconst 1, 1) := by decide +kernel
theorem dL_act_445 : decode cL_act 445 = .ok (.goto 5, 3) := by decide +kernel
theorem dL_act_448 : decode cL_act 448 = .ok (.bipush (-9), 2) := by decide +kernel
theorem dL_act_450 : decode cL_act 450 = .ok (.ireturn, 1) := by decide +kernel
theorem dL_act_451 : decode cL_act 451 = .ok (.iload_n 2, 1) := by decide +kernel
theorem dL_act_452 : decode cL_act 452 = .ok (.bipush 13, 2) := by decide +kernel
theorem dL_act_454 : decode cL_act 454 = .ok (.if_icmp .ne 83, 3) := by decide +kernel
theorem dL_act_457 : decode cL_act 457 = .ok (.aload_n 0, 1) := by decide +kernel
theorem dL_act_458 : decode cL_act 458 = .ok (.iload 5, 2) := by decide +kernel
theorem dL_act_460 : decode cL_act 460 = .ok (.iload 4, 2) := by decide +kernel
theorem dL_act_462 : decode cL_act 462 = .ok (.invokevirtual 56, 3) := by decide +kernel
theorem dL_act_465 : decode cL_act 465 = .ok (.istore 7, 2) := by decide +kernel
theorem dL_act_467 : decode cL_act 467 = .ok (.iload 6, 2) := by decide +kernel
theorem dL_act_469 : decode cL_act 469 = .ok (.ifCond .eq 19, 3) := by decide +kernel
theorem dL_act_472 : decode cL_act 472 = .ok (.iload 7, 2) := by decide +kernel
theorem dL_act_474 : decode cL_act 474 = .ok (.bipush (-5), 2) := by decide +kernel
theorem dL_act_476 : decode cL_act 476 = .ok (.if_icmp .ne 7, 3) := by decide +kernel
theorem dL_act_479 : decode cL_act 479 = .ok (.iconst 0, 1) := by decide +kernel
theorem dL_act_480 : decode cL_act 480 = .ok (.goto 56, 3) := by decide +kernel
theorem dL_act_483 : decode cL_act 483 = .ok (.bipush (-9), 2) := by decide +kernel
theorem dL_act_485 : decode cL_act 485 = .ok (.goto 51, 3) := by decide +kernel
theorem dL_act_488 : decode cL_act 488 = .ok (.iload 7, 2) := by decide +kernel
theorem dL_act_490 : decode cL_act 490 = .ok (.aload_n 0, 1) := by decide +kernel
theorem dL_act_491 : decode cL_act 491 = .ok (.iload 5, 2) := by decide +kernel
theorem dL_act_493 : decode cL_act 493 = .ok (.iconst 4, 1) := by decide +kernel
theorem dL_act_494 : decode cL_act 494 = .ok (.invokevirtual 27, 3) := by decide +kernel
theorem dL_act_497 : decode cL_act 497 = .ok (.invokestatic 30, 3) := by decide +kernel
theorem dL_act_500 : decode cL_act 500 = .ok (.if_icmp .ne 34, 3) := by decide +kernel
theorem dL_act_503 : decode cL_act 503 = .ok (.aload_n 0, 1) := by decide +kernel
theorem dL_act_504 : decode cL_act 504 = .ok (.iload 5, 2) := by decide +kernel
theorem dL_act_506 : decode cL_act 506 = .ok (.iload 4, 2) := by decide +kernel
theorem dL_act_508 : decode cL_act 508 = .ok (.invokevirtual 20, 3) := by decide +kernel
theorem dL_act_511 : decode cL_act 511 = .ok (.aload_n 0, 1) := by decide +kernel
theorem dL_act_512 : decode cL_act 512 = .ok (.iconst 3, 1) := by decide +kernel
theorem dL_act_513 : decode cL_act 513 = .ok (.invokevirtual 14, 3) := by decide +kernel
theorem dL_act_516 : decode cL_act 516 = .ok (.if_icmp .ne 18, 3) := by decide +kernel
theorem dL_act_519 : decode cL_act 519 = .ok (.aload_n 0, 1) := by decide +kernel
theorem dL_act_520 : decode cL_act 520 = .ok (.iload 5, 2) := by decide +kernel
theorem dL_act_522 : decode cL_act 522 = .ok (.iload 4, 2) := by decide +kernel
theorem dL_act_524 : decode cL_act 524 = .ok (.invokevirtual 44, 3) := by decide +kernel
theorem dL_act_527 : decode cL_act 527 = .ok (.ifCond .ne 7, 3) := by decide +kernel
theorem dL_act_530 : decode cL_act 530 = .ok (.iconst 1, 1) := by decide +kernel
theorem dL_act_531 : decode cL_act 531 = .ok (.goto 5, 3) := by decide +kernel
theorem dL_act_534 : decode cL_act 534 = .ok (.bipush (-9), 2) := by decide +kernel
theorem dL_act_536 : decode cL_act 536 = .ok (.ireturn, 1) := by decide +kernel
theorem dL_act_537 : decode cL_act 537 = .ok (.iload_n 2, 1) := by decide +kernel
theorem dL_act_538 : decode cL_act 538 = .ok (.bipush 14, 2) := by decide +kernel
theorem dL_act_540 : decode cL_act 540 = .ok (.if_icmp .ne 64, 3) := by decide +kernel
theorem dL_act_543 : decode cL_act 543 = .ok (.aload_n 0, 1) := by decide +kernel
theorem dL_act_544 : decode cL_act 544 = .ok (.iload 5, 2) := by decide +kernel
theorem dL_act_546 : decode cL_act 546 = .ok (.iconst 1, 1) := by decide +kernel
theorem dL_act_547 : decode cL_act 547 = .ok (.invokevirtual 27, 3) := by decide +kernel
theorem dL_act_550 : decode cL_act 550 = .ok (.istore 7, 2) := by decide +kernel
theorem dL_act_552 : decode cL_act 552 = .ok (.aload_n 0, 1) := by decide +kernel
theorem dL_act_553 : decode cL_act 553 = .ok (.iload 5, 2) := by decide +kernel
theorem dL_act_555 : decode cL_act 555 = .ok (.iconst 2, 1) := by decide +kernel
theorem dL_act_556 : decode cL_act 556 = .ok (.invokevirtual 27, 3) := by decide +kernel
theorem dL_act_559 : decode cL_act 559 = .ok (.istore 8, 2) := by decide +kernel
theorem dL_act_561 : decode cL_act 561 = .ok (.aload_n 0, 1) := by decide +kernel
theorem dL_act_562 : decode cL_act 562 = .ok (.iload 5, 2) := by decide +kernel
theorem dL_act_564 : decode cL_act 564 = .ok (.invokevirtual 66, 3) := by decide +kernel
theorem dL_act_567 : decode cL_act 567 = .ok (.iload 7, 2) := by decide +kernel
theorem dL_act_569 : decode cL_act 569 = .ok (.if_icmp .ne 32, 3) := by decide +kernel
theorem dL_act_572 : decode cL_act 572 = .ok (.aload_n 0, 1) := by decide +kernel
theorem dL_act_573 : decode cL_act 573 = .ok (.iload 5, 2) := by decide +kernel
theorem dL_act_575 : decode cL_act 575 = .ok (.iconst 1, 1) := by decide +kernel
theorem dL_act_576 : decode cL_act 576 = .ok (.invokevirtual 27, 3) := by decide +kernel
theorem dL_act_579 : decode cL_act 579 = .ok (.ifCond .ne 22, 3) := by decide +kernel
theorem dL_act_582 : decode cL_act 582 = .ok (.aload_n 0, 1) := by decide +kernel
theorem dL_act_583 : decode cL_act 583 = .ok (.iload 5, 2) := by decide +kernel
theorem dL_act_585 : decode cL_act 585 = .ok (.iconst 2, 1) := by decide +kernel
theorem dL_act_586 : decode cL_act 586 = .ok (.invokevirtual 27, 3) := by decide +kernel
theorem dL_act_589 : decode cL_act 589 = .ok (.iload 8, 2) := by decide +kernel
theorem dL_act_591 : decode cL_act 591 = .ok (.iload 7, 2) := by decide +kernel
theorem dL_act_593 : decode cL_act 593 = .ok (.iadd, 1) := by decide +kernel
theorem dL_act_594 : decode cL_act 594 = .ok (.if_icmp .ne 7, 3) := by decide +kernel
theorem dL_act_597 : decode cL_act 597 = .ok (.iconst 1, 1) := by decide +kernel
theorem dL_act_598 : decode cL_act 598 = .ok (.goto 5, 3) := by decide +kernel
theorem dL_act_601 : decode cL_act 601 = .ok (.bipush (-9), 2) := by decide +kernel
theorem dL_act_603 : decode cL_act 603 = .ok (.ireturn, 1) := by decide +kernel
theorem dL_act_604 : decode cL_act 604 = .ok (.iload_n 3, 1) := by decide +kernel
theorem dL_act_605 : decode cL_act 605 = .ok (.iconst 4, 1) := by decide +kernel
theorem dL_act_606 : decode cL_act 606 = .ok (.irem, 1) := by decide +kernel
theorem dL_act_607 : decode cL_act 607 = .ok (.istore 7, 2) := by decide +kernel
theorem dL_act_609 : decode cL_act 609 = .ok (.iload 7, 2) := by decide +kernel
theorem dL_act_611 : decode cL_act 611 = .ok (.iconst 2, 1) := by decide +kernel
theorem dL_act_612 : decode cL_act 612 = .ok (.if_icmp .ge 12, 3) := by decide +kernel
theorem dL_act_615 : decode cL_act 615 = .ok (.iload_n 3, 1) := by decide +kernel
theorem dL_act_616 : decode cL_act 616 = .ok (.iconst 4, 1) := by decide +kernel
theorem dL_act_617 : decode cL_act 617 = .ok (.idiv, 1) := by decide +kernel
theorem dL_act_618 : decode cL_act 618 = .ok (.bipush 21, 2) := by decide +kernel
theorem dL_act_620 : decode cL_act 620 = .ok (.irem, 1) := by decide +kernel
theorem dL_act_621 : decode cL_act 621 = .ok (.goto 28, 3) := by decide +kernel
theorem dL_act_624 : decode cL_act 624 = .ok (.iload 7, 2) := by decide +kernel
theorem dL_act_626 : decode cL_act 626 = .ok (.iconst 2, 1) := by decide +kernel
theorem dL_act_627 : decode cL_act 627 = .ok (.if_icmp .ne 14, 3) := by decide +kernel
theorem dL_act_630 : decode cL_act 630 = .ok (.iconst 1, 1) := by decide +kernel
theorem dL_act_631 : decode cL_act 631 = .ok (.iload_n 3, 1) := by decide +kernel
theorem dL_act_632 : decode cL_act 632 = .ok (.iconst 4, 1) := by decide +kernel
theorem dL_act_633 : decode cL_act 633 = .ok (.idiv, 1) := by decide +kernel
theorem dL_act_634 : decode cL_act 634 = .ok (.bipush 50, 2) := by decide +kernel
theorem dL_act_636 : decode cL_act 636 = .ok (.irem, 1) := by decide +kernel
theorem dL_act_637 : decode cL_act 637 = .ok (.iadd, 1) := by decide +kernel
theorem dL_act_638 : decode cL_act 638 = .ok (.goto 11, 3) := by decide +kernel
theorem dL_act_641 : decode cL_act 641 = .ok (.iconst 1, 1) := by decide +kernel
theorem dL_act_642 : decode cL_act 642 = .ok (.iload_n 3, 1) := by decide +kernel
theorem dL_act_643 : decode cL_act 643 = .ok (.iconst 4, 1) := by decide +kernel
theorem dL_act_644 : decode cL_act 644 = .ok (.idiv, 1) := by decide +kernel
theorem dL_act_645 : decode cL_act 645 = .ok (.bipush 30, 2) := by decide +kernel
theorem dL_act_647 : decode cL_act 647 = .ok (.irem, 1) := by decide +kernel
theorem dL_act_648 : decode cL_act 648 = .ok (.iadd, 1) := by decide +kernel
theorem dL_act_649 : decode cL_act 649 = .ok (.istore 8, 2) := by decide +kernel
theorem dL_act_651 : decode cL_act 651 = .ok (.aload_n 0, 1) := by decide +kernel
theorem dL_act_652 : decode cL_act 652 = .ok (.iload 7, 2) := by decide +kernel
theorem dL_act_654 : decode cL_act 654 = .ok (.invokevirtual 14, 3) := by decide +kernel
theorem dL_act_657 : decode cL_act 657 = .ok (.istore 9, 2) := by decide +kernel
theorem dL_act_659 : decode cL_act 659 = .ok (.aload_n 0, 1) := by decide +kernel
theorem dL_act_660 : decode cL_act 660 = .ok (.iload 7, 2) := by decide +kernel
theorem dL_act_662 : decode cL_act 662 = .ok (.iload 8, 2) := by decide +kernel
theorem dL_act_664 : decode cL_act 664 = .ok (.invokevirtual 47, 3) := by decide +kernel
theorem dL_act_667 : decode cL_act 667 = .ok (.iload 9, 2) := by decide +kernel
theorem dL_act_669 : decode cL_act 669 = .ok (.if_icmp .ne 18, 3) := by decide +kernel
theorem dL_act_672 : decode cL_act 672 = .ok (.aload_n 0, 1) := by decide +kernel
theorem dL_act_673 : decode cL_act 673 = .ok (.iload 7, 2) := by decide +kernel
theorem dL_act_675 : decode cL_act 675 = .ok (.invokevirtual 14, 3) := by decide +kernel
theorem dL_act_678 : decode cL_act 678 = .ok (.iload 8, 2) := by decide +kernel
theorem dL_act_680 : decode cL_act 680 = .ok (.if_icmp .ne 7, 3) := by decide +kernel
theorem dL_act_683 : decode cL_act 683 = .ok (.iconst 1, 1) := by decide +kernel
theorem dL_act_684 : decode cL_act 684 = .ok (.goto 5, 3) := by decide +kernel
theorem dL_act_687 : decode cL_act 687 = .ok (.bipush (-9), 2) := by decide +kernel
theorem dL_act_689 : decode cL_act 689 = .ok (.ireturn, 1) := by decide +kernel
set_option maxRecDepth 20000 in
theorem ggL_law_X4_init : GoodIn wsL_law wsX4_init := goodIn_r _ [5, 6, 7, 8, 9, 10, 11, 12, 13, 14, 15, 16, 17, 18, 19, 20, 21, 22, 23, 24, 25, 26, 27, 28, 29, 30, 31, 32, 33, 34, 35, 36, 37, 38, 39, 40, 41, 42, 43, 44, 45, 46, 47, 48, 49, 50, 51, 52, 53, 54, 55, 56, 57, 58, 59, 391, 392, 393, 394, 395, 396, 397, 398, 399, 400, 401, 402, 403, 404, 405, 387, 388, 389, 390, 406, 407, 408, 409, 410, 411] (by decide +kernel) (by decide +kernel)
set_option maxRecDepth 20000 in
theorem gL_law_X4_init : GoodIn wsL_law (wsX4_init) := ggL_law_X4_init
set_option maxRecDepth 20000 in
theorem ggL_law_X4_undo : GoodIn wsL_law wsX4_undo := goodIn_r _ [63, 20, 64, 12, 65, 66, 67, 19, 68, 69, 49, 70, 71, 72, 11, 73, 30, 31, 32, 33, 34, 35, 36, 37, 38, 74, 75, 76, 77, 78, 79, 80, 2, 81, 387, 388, 389, 390, 408, 409, 391, 392, 393, 394, 395, 396, 397, 398, 399, 400, 401, 402, 403, 404, 405] (by decide +kernel) (by decide +kernel)
set_option maxRecDepth 20000 in
theorem gL_law_X4_undo : GoodIn wsL_law (wsV RL 104 RX4 yX4_undo wsX4_undo) := goodIn_app (goodIn_of _ (by decide +kernel)) ggL_law_X4_undo
set_option maxRecDepth 20000 in
theorem ggL_law_X4_restore : GoodIn wsL_law wsX4_restore := goodIn_r _ [85, 24, 86, 20, 12, 87, 88, 89, 90, 91, 19, 92, 69, 49, 93, 94, 95, 96, 70, 71, 72, 11, 73, 30, 31, 32, 33, 34, 35, 36, 37, 38, 74, 75, 76, 77, 78, 79, 80, 2, 81, 97, 387, 388, 389, 390, 410, 411, 391, 392, 393, 394, 395, 396, 397, 398, 399, 400, 401, 402, 403, 404, 405, 408, 409] (by decide +kernel) (by decide +kernel)
set_option maxRecDepth 20000 in
theorem gL_law_X4_restore : GoodIn wsL_law (wsV RL 79 RX4 yX4_restore wsX4_restore) := goodIn_app (goodIn_of _ (by decide +kernel)) ggL_law_X4_restore
set_option maxRecDepth 20000 in
theorem ggL_law_X4_count : GoodIn wsL_law wsX4_count := goodIn_r _ [101, 12, 102, 88, 103, 104, 105, 106, 107, 108, 109, 110, 16, 111, 20, 64, 112, 113, 2, 114, 115, 116, 117, 11, 118, 119, 120, 121, 122, 123, 124, 125, 126, 38, 127, 128, 129, 130, 131, 132, 133, 134, 135, 387, 388, 389, 390, 391, 392, 393, 394, 395, 396, 397, 398, 399, 400, 401, 402, 403, 404, 405, 406, 407, 408, 409] (by decide +kernel) (by decide +kernel)
set_option maxRecDepth 20000 in
theorem gL_law_X4_count : GoodIn wsL_law (wsV RL 14 RX4 yX4_count wsX4_count) := goodIn_app (goodIn_of _ (by decide +kernel)) ggL_law_X4_count
set_option maxRecDepth 20000 in
theorem ggL_law_X4_puddle : GoodIn wsL_law wsX4_puddle := goodIn_r _ [139, 12, 140, 103, 141, 142, 143, 2, 144, 145, 146, 147, 11, 148, 32, 149, 150, 151, 152, 74, 153, 154, 155, 156, 157, 158, 75, 159, 160, 161, 162, 123, 124, 125, 126, 38, 127, 128, 387, 388, 389, 390, 391, 392, 393, 394, 395, 396, 397, 398, 399, 400, 401, 402, 403, 404, 405] (by decide +kernel) (by decide +kernel)
set_option maxRecDepth 20000 in
theorem gL_law_X4_puddle : GoodIn wsL_law (wsV RL 24 RX4 yX4_puddle wsX4_puddle) := goodIn_app (goodIn_of _ (by decide +kernel)) ggL_law_X4_puddle
set_option maxRecDepth 20000 in
theorem ggL_law_L_refuses : GoodIn wsL_law wsL_refuses := goodIn_r _ [166, 167, 168, 165, 169, 170, 171, 98, 99, 100, 2, 101, 12, 102, 88, 103, 104, 105, 106, 107, 108, 109, 110, 16, 111, 20, 64, 112, 113, 114, 115, 116, 117, 11, 118, 119, 120, 121, 122, 123, 124, 125, 126, 38, 127, 128, 129, 130, 131, 132, 133, 134, 135, 172, 173, 174, 175, 176, 177, 178, 179, 142, 143, 144, 180, 136, 137, 138, 139, 140, 141, 145, 146, 147, 148, 32, 149, 150, 151, 152, 74, 153, 154, 155, 156, 157, 158, 75, 159, 160, 161, 162, 181, 182, 183, 184, 185, 186, 187, 188, 189, 190, 191, 192, 193, 194, 195, 34, 196, 197, 198, 199, 200, 201, 202, 203, 204, 205, 206, 207, 208, 209, 210, 211, 212, 213, 214, 89, 90, 91, 19, 92, 69, 49, 93, 94, 95, 96, 70, 71, 72, 73, 30, 31, 33, 35, 36, 37, 76, 77, 78, 79, 80, 81, 215, 216, 217, 218, 219, 220, 221, 222, 223, 224, 225, 226, 227, 228, 229, 230, 231, 232, 233, 234, 235, 236, 237, 238, 239, 240, 241, 242, 243, 244, 245, 246, 247, 248, 249, 250, 251, 252, 253, 254, 255, 256, 257, 258, 259, 260, 261, 262, 263, 264, 265, 266, 267, 268, 269, 270, 271, 272, 273, 274, 275, 276, 277, 278, 279, 280, 281, 282, 283, 284, 285, 286, 287, 288, 289, 290, 291, 292, 293, 294, 295, 296, 297, 298, 299, 300, 301, 302, 303, 304, 305, 306, 307, 308, 309, 310, 311, 312, 313, 314, 315, 316, 317, 318, 319, 320, 321, 322, 323, 324, 325, 326, 327, 328, 329, 330, 331, 332, 333, 334, 335, 336, 24, 87, 86, 97, 82, 83, 84, 85, 337, 338, 339, 340, 341, 342, 343, 344, 345, 346, 347, 15, 348, 349, 43, 350, 351, 352, 353, 354, 355, 356, 357, 358, 359, 360, 361, 362, 363, 364, 365, 366, 367, 368, 387, 388, 389, 390, 391, 392, 393, 394, 395, 396, 397, 398, 399, 400, 401, 402, 403, 404, 405, 406, 407, 408, 409, 410, 411] (by decide +kernel) (by decide +kernel)
set_option maxRecDepth 20000 in
theorem gL_law_L_refuses : GoodIn wsL_law (va_wsS RL 107 yL_refuses wsL_refuses) := goodIn_app (goodIn_of _ (by decide +kernel)) ggL_law_L_refuses
set_option maxRecDepth 20000 in
theorem ggL_law_X4_save : GoodIn wsL_law wsX4_save := goodIn_r _ [336, 24, 87, 12, 86, 88, 97, 71, 72, 11, 73, 30, 31, 32, 33, 34, 35, 36, 37, 38, 74, 75, 76, 77, 78, 79, 80, 2, 81, 387, 388, 389, 390, 410, 411, 391, 392, 393, 394, 395, 396, 397, 398, 399, 400, 401, 402, 403, 404, 405] (by decide +kernel) (by decide +kernel)
set_option maxRecDepth 20000 in
theorem gL_law_X4_save : GoodIn wsL_law (wsV RL 76 RX4 yX4_save wsX4_save) := goodIn_app (goodIn_of _ (by decide +kernel)) ggL_law_X4_save
set_option maxRecDepth 20000 in
theorem ggL_law_L_cell : GoodIn wsL_law wsL_cell := goodIn_r _ [371, 372, 373, 374] (by decide +kernel) (by decide +kernel)
set_option maxRecDepth 20000 in
theorem gL_law_L_cell : GoodIn wsL_law (va_wsS RL 110 yL_cell wsL_cell) := goodIn_app (goodIn_of _ (by decide +kernel)) ggL_law_L_cell
set_option maxRecDepth 20000 in
theorem ggL_law_L_seen : GoodIn wsL_law wsL_seen := goodIn_r _ [169, 170, 171, 98, 99, 100, 2, 101, 12, 102, 88, 103, 104, 105, 106, 107, 108, 109, 110, 16, 111, 20, 64, 112, 113, 114, 115, 116, 117, 11, 118, 119, 120, 121, 122, 123, 124, 125, 126, 38, 127, 128, 129, 130, 131, 132, 133, 134, 135, 172, 173, 174, 175, 176, 177, 178, 179, 142, 143, 144, 180, 136, 137, 138, 139, 140, 141, 145, 146, 147, 148, 32, 149, 150, 151, 152, 74, 153, 154, 155, 156, 157, 158, 75, 159, 160, 161, 162, 181, 182, 183, 184, 185, 186, 187, 188, 189, 190, 191, 192, 193, 194, 195, 34, 196, 197, 198, 199, 200, 201, 202, 203, 204, 205, 387, 388, 389, 390, 391, 392, 393, 394, 395, 396, 397, 398, 399, 400, 401, 402, 403, 404, 405, 406, 407, 408, 409] (by decide +kernel) (by decide +kernel)
set_option maxRecDepth 20000 in
theorem gL_law_L_seen : GoodIn wsL_law (va_wsS RL 92 yL_seen wsL_seen) := goodIn_app (goodIn_of _ (by decide +kernel)) ggL_law_L_seen
set_option maxRecDepth 20000 in
theorem ggL_law_L_act : GoodIn wsL_law wsL_act := goodIn_r _ [377, 378, 379, 165, 380, 98, 99, 100, 2, 101, 12, 102, 88, 103, 104, 105, 106, 107, 108, 109, 110, 16, 111, 20, 64, 112, 113, 114, 115, 116, 117, 11, 118, 119, 120, 121, 122, 123, 124, 125, 126, 38, 127, 128, 129, 130, 131, 132, 133, 134, 135, 267, 268, 269, 270, 89, 90, 91, 19, 92, 69, 49, 93, 94, 95, 96, 70, 71, 72, 73, 30, 31, 32, 33, 34, 35, 36, 37, 74, 75, 76, 77, 78, 79, 80, 81, 271, 272, 273, 274, 275, 276, 277, 278, 279, 280, 250, 281, 202, 150, 151, 152, 153, 154, 282, 283, 284, 285, 201, 146, 147, 148, 286, 287, 288, 289, 290, 291, 292, 293, 294, 295, 296, 297, 381, 382, 383, 136, 137, 138, 139, 140, 141, 142, 143, 144, 145, 149, 155, 156, 157, 158, 159, 160, 161, 162, 303, 304, 305, 306, 177, 178, 179, 307, 308, 309, 310, 248, 249, 251, 252, 253, 192, 193, 194, 195, 196, 197, 198, 199, 200, 203, 204, 205, 259, 260, 261, 262, 311, 312, 313, 314, 315, 245, 246, 247, 181, 182, 183, 184, 185, 186, 187, 188, 189, 190, 191, 240, 241, 242, 243, 244, 254, 255, 256, 257, 258, 215, 216, 217, 218, 219, 220, 221, 222, 223, 224, 225, 226, 227, 228, 229, 230, 236, 237, 238, 239, 231, 232, 233, 234, 176, 180, 235, 172, 173, 174, 175, 298, 299, 300, 301, 302, 263, 264, 265, 266, 209, 210, 211, 212, 213, 214, 387, 388, 389, 390, 391, 392, 393, 394, 395, 396, 397, 398, 399, 400, 401, 402, 403, 404, 405, 406, 407, 408, 409] (by decide +kernel) (by decide +kernel)
set_option maxRecDepth 20000 in
theorem gL_law_L_act : GoodIn wsL_law (va_wsS RL 114 yL_act wsL_act) := goodIn_app (goodIn_of _ (by decide +kernel)) ggL_law_L_act
set_option maxRecDepth 20000 in
theorem ggL_law_L_areAll : GoodIn wsL_law wsL_areAll := goodIn_r _ [386, 136, 137, 138, 2, 139, 12, 140, 103, 141, 142, 143, 144, 145, 146, 147, 11, 148, 32, 149, 150, 151, 152, 74, 153, 154, 155, 156, 157, 158, 75, 159, 160, 161, 162, 123, 124, 125, 126, 38, 127, 128, 381, 382, 165, 383, 316, 317, 318, 319, 102, 98, 99, 100, 101, 88, 104, 105, 106, 107, 108, 109, 110, 16, 111, 20, 64, 112, 113, 114, 115, 116, 117, 118, 119, 120, 121, 122, 129, 130, 131, 132, 133, 134, 135, 181, 182, 183, 184, 185, 186, 177, 178, 179, 187, 188, 189, 190, 191, 192, 193, 194, 195, 34, 196, 197, 198, 199, 200, 201, 202, 203, 204, 205, 320, 321, 322, 323, 324, 325, 326, 327, 328, 329, 330, 331, 332, 298, 299, 300, 301, 302, 172, 173, 174, 175, 176, 180, 387, 388, 389, 390, 391, 392, 393, 394, 395, 396, 397, 398, 399, 400, 401, 402, 403, 404, 405, 406, 407, 408, 409] (by decide +kernel) (by decide +kernel)
set_option maxRecDepth 20000 in
theorem gL_law_L_areAll : GoodIn wsL_law (va_wsS RL 118 yL_areAll wsL_areAll) := goodIn_app (goodIn_of _ (by decide +kernel)) ggL_law_L_areAll
theorem dL_law_0 : decode cL_law 0 = .ok (.new 15, 3) := by decide +kernel
theorem dL_law_3 : decode cL_law 3 = .ok (.dup, 1) := by decide +kernel
theorem dL_law_4 : decode cL_law 4 = .ok (.invokespecial 103, 3) := by decide +kernel
theorem dL_law_7 : decode cL_law 7 = .ok (.astore_n 1, 1) := by decide +kernel
theorem dL_law_8 : decode cL_law 8 = .ok (.aload_n 1, 1) := by decide +kernel
theorem dL_law_9 : decode cL_law 9 = .ok (.invokevirtual 104, 3) := by decide +kernel
theorem dL_law_12 : decode cL_law 12 = .ok (.bipush (-5), 2) := by decide +kernel
theorem dL_law_14 : decode cL_law 14 = .ok (.if_icmp .ne 100, 3) := by decide +kernel
theorem dL_law_17 : decode cL_law 17 = .ok (.aload_n 1, 1) := by decide +kernel
theorem dL_law_18 : decode cL_law 18 = .ok (.iconst 0, 1) := by decide +kernel
theorem dL_law_19 : decode cL_law 19 = .ok (.invokevirtual 79, 3) := by decide +kernel
theorem dL_law_22 : decode cL_law 22 = .ok (.bipush (-5), 2) := by decide +kernel
theorem dL_law_24 : decode cL_law 24 = .ok (.if_icmp .ne 90, 3) := by decide +kernel
theorem dL_law_27 : decode cL_law 27 = .ok (.aload_n 1, 1) := by decide +kernel
theorem dL_law_28 : decode cL_law 28 = .ok (.iconst 1, 1) := by decide +kernel
theorem dL_law_29 : decode cL_law 29 = .ok (.invokevirtual 79, 3) := by decide +kernel
theorem dL_law_32 : decode cL_law 32 = .ok (.bipush (-5), 2) := by decide +kernel
theorem dL_law_34 : decode cL_law 34 = .ok (.if_icmp .ne 80, 3) := by decide +kernel
theorem dL_law_37 : decode cL_law 37 = .ok (.aload_n 1, 1) := by decide +kernel
theorem dL_law_38 : decode cL_law 38 = .ok (.iconst 0, 1) := by decide +kernel
theorem dL_law_39 : decode cL_law 39 = .ok (.invokevirtual 14, 3) := by decide +kernel
theorem dL_law_42 : decode cL_law 42 = .ok (.iconst 3, 1) := by decide +kernel
theorem dL_law_43 : decode cL_law 43 = .ok (.if_icmp .ne 71, 3) := by decide +kernel
theorem dL_law_46 : decode cL_law 46 = .ok (.aload_n 1, 1) := by decide +kernel
theorem dL_law_47 : decode cL_law 47 = .ok (.iconst 1, 1) := by decide +kernel
theorem dL_law_48 : decode cL_law 48 = .ok (.invokevirtual 14, 3) := by decide +kernel
theorem dL_law_51 : decode cL_law 51 = .ok (.iconst 2, 1) := by decide +kernel
theorem dL_law_52 : decode cL_law 52 = .ok (.if_icmp .ne 62, 3) := by decide +kernel
theorem dL_law_55 : decode cL_law 55 = .ok (.aload_n 1, 1) := by decide +kernel
theorem dL_law_56 : decode cL_law 56 = .ok (.iconst 2, 1) := by decide +kernel
theorem dL_law_57 : decode cL_law 57 = .ok (.invokevirtual 14, 3) := by decide +kernel
theorem dL_law_60 : decode cL_law 60 = .ok (.bipush 15, 2) := by decide +kernel
theorem dL_law_62 : decode cL_law 62 = .ok (.if_icmp .ne 52, 3) := by decide +kernel
theorem dL_law_65 : decode cL_law 65 = .ok (.aload_n 1, 1) := by decide +kernel
theorem dL_law_66 : decode cL_law 66 = .ok (.iconst 3, 1) := by decide +kernel
theorem dL_law_67 : decode cL_law 67 = .ok (.invokevirtual 14, 3) := by decide +kernel
theorem dL_law_70 : decode cL_law 70 = .ok (.iconst 5, 1) := by decide +kernel
theorem dL_law_71 : decode cL_law 71 = .ok (.if_icmp .ne 43, 3) := by decide +kernel
theorem dL_law_74 : decode cL_law 74 = .ok (.aload_n 1, 1) := by decide +kernel
theorem dL_law_75 : decode cL_law 75 = .ok (.bipush 11, 2) := by decide +kernel
theorem dL_law_77 : decode cL_law 77 = .ok (.iconst 0, 1) := by decide +kernel
theorem dL_law_78 : decode cL_law 78 = .ok (.invokevirtual 24, 3) := by decide +kernel
theorem dL_law_81 : decode cL_law 81 = .ok (.bipush 20, 2) := by decide +kernel
theorem dL_law_83 : decode cL_law 83 = .ok (.if_icmp .ne 31, 3) := by decide +kernel
theorem dL_law_86 : decode cL_law 86 = .ok (.aload_n 1, 1) := by decide +kernel
theorem dL_law_87 : decode cL_law 87 = .ok (.iconst 0, 1) := by decide +kernel
theorem dL_law_88 : decode cL_law 88 = .ok (.invokestatic 107, 3) := by decide +kernel
theorem dL_law_91 : decode cL_law 91 = .ok (.ifCond .eq 23, 3) := by decide +kernel
theorem dL_law_94 : decode cL_law 94 = .ok (.aload_n 1, 1) := by decide +kernel
theorem dL_law_95 : decode cL_law 95 = .ok (.iconst 1, 1) := by decide +kernel
theorem dL_law_96 : decode cL_law 96 = .ok (.invokestatic 107, 3) := by decide +kernel
theorem dL_law_99 : decode cL_law 99 = .ok (.ifCond .eq 15, 3) := by decide +kernel
theorem dL_law_102 : decode cL_law 102 = .ok (.aload_n 1, 1) := by decide +kernel
theorem dL_law_103 : decode cL_law 103 = .ok (.iconst 1, 1) := by decide +kernel
theorem dL_law_104 : decode cL_law 104 = .ok (.invokevirtual 76, 3) := by decide +kernel
theorem dL_law_107 : decode cL_law 107 = .ok (.ifCond .ne 7, 3) := by decide +kernel
theorem dL_law_110 : decode cL_law 110 = .ok (.iconst 1, 1) := by decide +kernel
theorem dL_law_111 : decode cL_law 111 = .ok (.goto 4, 3) := by decide +kernel
theorem dL_law_114 : decode cL_law 114 = .ok (.iconst 0, 1) := by decide +kernel
theorem dL_law_115 : decode cL_law 115 = .ok (.istore_n 2, 1) := by decide +kernel
theorem dL_law_116 : decode cL_law 116 = .ok (.iconst 0, 1) := by decide +kernel
theorem dL_law_117 : decode cL_law 117 = .ok (.istore_n 3, 1) := by decide +kernel
theorem dL_law_118 : decode cL_law 118 = .ok (.iload_n 3, 1) := by decide +kernel
theorem dL_law_119 : decode cL_law 119 = .ok (.bipush 80, 2) := by decide +kernel
theorem dL_law_121 : decode cL_law 121 = .ok (.if_icmp .ge 240, 3) := by decide +kernel
theorem dL_law_124 : decode cL_law 124 = .ok (.iload_n 2, 1) := by decide +kernel
theorem dL_law_125 : decode cL_law 125 = .ok (.ifCond .eq 236, 3) := by decide +kernel
theorem dL_law_128 : decode cL_law 128 = .ok (.aload_n 0, 1) := by decide +kernel
theorem dL_law_129 : decode cL_law 129 = .ok (.iload_n 3, 1) := by decide +kernel
theorem dL_law_130 : decode cL_law 130 = .ok (.invokestatic 110, 3) := by decide +kernel
theorem dL_law_133 : decode cL_law 133 = .ok (.istore 4, 2) := by decide +kernel
theorem dL_law_135 : decode cL_law 135 = .ok (.aload_n 1, 1) := by decide +kernel
theorem dL_law_136 : decode cL_law 136 = .ok (.invokestatic 92, 3) := by decide +kernel
theorem dL_law_139 : decode cL_law 139 = .ok (.lstore 5, 2) := by decide +kernel
theorem dL_law_141 : decode cL_law 141 = .ok (.aload_n 1, 1) := by decide +kernel
theorem dL_law_142 : decode cL_law 142 = .ok (.bipush 15, 2) := by decide +kernel
theorem dL_law_144 : decode cL_law 144 = .ok (.invokevirtual 14, 3) := by decide +kernel
theorem dL_law_147 : decode cL_law 147 = .ok (.istore 7, 2) := by decide +kernel
theorem dL_law_149 : decode cL_law 149 = .ok (.aload_n 1, 1) := by decide +kernel
theorem dL_law_150 : decode cL_law 150 = .ok (.iload 4, 2) := by decide +kernel
theorem dL_law_152 : decode cL_law 152 = .ok (.invokestatic 114, 3) := by decide +kernel
theorem dL_law_155 : decode cL_law 155 = .ok (.istore 8, 2) := by decide +kernel
theorem dL_law_157 : decode cL_law 157 = .ok (.aload_n 1, 1) := by decide +kernel
theorem dL_law_158 : decode cL_law 158 = .ok (.bipush 15, 2) := by decide +kernel
theorem dL_law_160 : decode cL_law 160 = .ok (.invokevirtual 14, 3) := by decide +kernel
theorem dL_law_163 : decode cL_law 163 = .ok (.istore 9, 2) := by decide +kernel
theorem dL_law_165 : decode cL_law 165 = .ok (.iload 8, 2) := by decide +kernel
theorem dL_law_167 : decode cL_law 167 = .ok (.ifCond .lt 87, 3) := by decide +kernel
theorem dL_law_170 : decode cL_law 170 = .ok (.iload 8, 2) := by decide +kernel
theorem dL_law_172 : decode cL_law 172 = .ok (.ifCond .ne 23, 3) := by decide +kernel
theorem dL_law_175 : decode cL_law 175 = .ok (.iload 9, 2) := by decide +kernel
theorem dL_law_177 : decode cL_law 177 = .ok (.iload 7, 2) := by decide +kernel
theorem dL_law_179 : decode cL_law 179 = .ok (.if_icmp .ne 75, 3) := by decide +kernel
theorem dL_law_182 : decode cL_law 182 = .ok (.aload_n 1, 1) := by decide +kernel
theorem dL_law_183 : decode cL_law 183 = .ok (.invokestatic 92, 3) := by decide +kernel
theorem dL_law_186 : decode cL_law 186 = .ok (.lload 5, 2) := by decide +kernel
theorem dL_law_188 : decode cL_law 188 = .ok (.lcmp, 1) := by decide +kernel
theorem dL_law_189 : decode cL_law 189 = .ok (.ifCond .ne 65, 3) := by decide +kernel
theorem dL_law_192 : decode cL_law 192 = .ok (.goto 24, 3) := by decide +kernel
theorem dL_law_195 : decode cL_law 195 = .ok (.iload 9, 2) := by decide +kernel
theorem dL_law_197 : decode cL_law 197 = .ok (.iload 7, 2) := by decide +kernel
theorem dL_law_199 : decode cL_law 199 = .ok (.bipush 6, 2) := by decide +kernel
theorem dL_law_201 : decode cL_law 201 = .ok (.if_icmp .ge 10, 3) := by decide +kernel
theorem dL_law_204 : decode cL_law 204 = .ok (.iload 7, 2) := by decide +kernel
theorem dL_law_206 : decode cL_law 206 = .ok (.iconst 1, 1) := by decide +kernel
theorem dL_law_207 : decode cL_law 207 = .ok (.iadd, 1) := by decide +kernel
theorem dL_law_208 : decode cL_law 208 = .ok (.goto 5, 3) := by decide +kernel
theorem dL_law_211 : decode cL_law 211 = .ok (.bipush 6, 2) := by decide +kernel
theorem dL_law_213 : decode cL_law 213 = .ok (.if_icmp .ne 41, 3) := by decide +kernel
theorem dL_law_216 : decode cL_law 216 = .ok (.iload_n 3, 1) := by decide +kernel
theorem dL_law_217 : decode cL_law 217 = .ok (.iconst 3, 1) := by decide +kernel
theorem dL_law_218 : decode cL_law 218 = .ok (.irem, 1) := by decide +kernel
theorem dL_law_219 : decode cL_law 219 = .ok (.ifCond .eq 10, 3) := by decide +kernel
theorem dL_law_222 : decode cL_law 222 = .ok (.aload_n 1, 1) := by decide +kernel
theorem dL_law_223 : decode cL_law 223 = .ok (.invokestatic 118, 3) := by decide +kernel
theorem dL_law_226 : decode cL_law 226 = .ok (.ifCond .eq 28, 3) := by decide +kernel
theorem dL_law_229 : decode cL_law 229 = .ok (.iload_n 3, 1) := by decide +kernel
theorem dL_law_230 : decode cL_law 230 = .ok (.bipush 7, 2) := by decide +kernel
theorem dL_law_232 : decode cL_law 232 = .ok (.irem, 1) := by decide +kernel
theorem dL_law_233 : decode cL_law 233 = .ok (.bipush 6, 2) := by decide +kernel
theorem dL_law_235 : decode cL_law 235 = .ok (.if_icmp .ne 15, 3) := by decide +kernel
theorem dL_law_238 : decode cL_law 238 = .ok (.aload_n 1, 1) := by decide +kernel
theorem dL_law_239 : decode cL_law 239 = .ok (.iload 4, 2) := by decide +kernel
theorem dL_law_241 : decode cL_law 241 = .ok (.bipush 7, 2) := by decide +kernel
theorem dL_law_243 : decode cL_law 243 = .ok (.idiv, 1) := by decide +kernel
theorem dL_law_244 : decode cL_law 244 = .ok (.invokestatic 107, 3) := by decide +kernel
theorem dL_law_247 : decode cL_law 247 = .ok (.ifCond .eq 7, 3) := by decide +kernel
theorem dL_law_250 : decode cL_law 250 = .ok (.iconst 1, 1) := by decide +kernel
theorem dL_law_251 : decode cL_law 251 = .ok (.goto 4, 3) := by decide +kernel
theorem dL_law_254 : decode cL_law 254 = .ok (.iconst 0, 1) := by decide +kernel
theorem dL_law_255 : decode cL_law 255 = .ok (.istore_n 2, 1) := by decide +kernel
theorem dL_law_256 : decode cL_law 256 = .ok (.iload_n 2, 1) := by decide +kernel
theorem dL_law_257 : decode cL_law 257 = .ok (.ifCond .eq 98, 3) := by decide +kernel
theorem dL_law_260 : decode cL_law 260 = .ok (.iload 8, 2) := by decide +kernel
theorem dL_law_262 : decode cL_law 262 = .ok (.iconst 1, 1) := by decide +kernel
theorem dL_law_263 : decode cL_law 263 = .ok (.if_icmp .ne 92, 3) := by decide +kernel
theorem dL_law_266 : decode cL_law 266 = .ok (.iload 4, 2) := by decide +kernel
theorem dL_law_268 : decode cL_law 268 = .ok (.bipush 17, 2) := by decide +kernel
theorem dL_law_270 : decode cL_law 270 = .ok (.idiv, 1) := by decide +kernel
theorem dL_law_271 : decode cL_law 271 = .ok (.iconst 4, 1) := by decide +kernel
theorem dL_law_272 : decode cL_law 272 = .ok (.irem, 1) := by decide +kernel
theorem dL_law_273 : decode cL_law 273 = .ok (.ifCond .ne 82, 3) := by decide +kernel
theorem dL_law_276 : decode cL_law 276 = .ok (.aload_n 1, 1) := by decide +kernel
theorem dL_law_277 : decode cL_law 277 = .ok (.invokestatic 92, 3) := by decide +kernel
theorem dL_law_280 : decode cL_law 280 = .ok (.lstore 10, 2) := by decide +kernel
theorem dL_law_282 : decode cL_law 282 = .ok (.aload_n 1, 1) := by decide +kernel
theorem dL_law_283 : decode cL_law 283 = .ok (.iconst 0, 1) := by decide +kernel
theorem dL_law_284 : decode cL_law 284 = .ok (.invokevirtual 76, 3) := by decide +kernel
theorem dL_law_287 : decode cL_law 287 = .ok (.istore 12, 2) := by decide +kernel
theorem dL_law_289 : decode cL_law 289 = .ok (.iload 12, 2) := by decide +kernel
theorem dL_law_291 : decode cL_law 291 = .ok (.aload_n 1, 1) := by decide +kernel
theorem dL_law_292 : decode cL_law 292 = .ok (.iconst 4, 1) := by decide +kernel
theorem dL_law_293 : decode cL_law 293 = .ok (.invokevirtual 14, 3) := by decide +kernel
theorem dL_law_296 : decode cL_law 296 = .ok (.if_icmp .ne 57, 3) := by decide +kernel
theorem dL_law_299 : decode cL_law 299 = .ok (.aload_n 1, 1) := by decide +kernel
theorem dL_law_300 : decode cL_law 300 = .ok (.invokevirtual 104, 3) := by decide +kernel
theorem dL_law_303 : decode cL_law 303 = .ok (.iload 7, 2) := by decide +kernel
theorem dL_law_305 : decode cL_law 305 = .ok (.bipush 6, 2) := by decide +kernel
theorem dL_law_307 : decode cL_law 307 = .ok (.if_icmp .ge 8, 3) := by decide +kernel
theorem dL_law_310 : decode cL_law 310 = .ok (.iload 7, 2) := by decide +kernel
theorem dL_law_312 : decode cL_law 312 = .ok (.goto 4, 3) := by decide +kernel
theorem dL_law_315 : decode cL_law 315 = .ok (.iconst 5, 1) := by decide +kernel
theorem dL_law_316 : decode cL_law 316 = .ok (.if_icmp .ne 37, 3) := by decide +kernel
theorem dL_law_319 : decode cL_law 319 = .ok (.aload_n 1, 1) := by decide +kernel
theorem dL_law_320 : decode cL_law 320 = .ok (.invokestatic 92, 3) := by decide +kernel
theorem dL_law_323 : decode cL_law 323 = .ok (.lload 5, 2) := by decide +kernel
theorem dL_law_325 : decode cL_law 325 = .ok (.lcmp, 1) := by decide +kernel
theorem dL_law_326 : decode cL_law 326 = .ok (.ifCond .ne 27, 3) := by decide +kernel
theorem dL_law_329 : decode cL_law 329 = .ok (.aload_n 1, 1) := by decide +kernel
theorem dL_law_330 : decode cL_law 330 = .ok (.iconst 0, 1) := by decide +kernel
theorem dL_law_331 : decode cL_law 331 = .ok (.invokevirtual 79, 3) := by decide +kernel
theorem dL_law_334 : decode cL_law 334 = .ok (.iload 12, 2) := by decide +kernel
theorem dL_law_336 : decode cL_law 336 = .ok (.if_icmp .ne 17, 3) := by decide +kernel
theorem dL_law_339 : decode cL_law 339 = .ok (.aload_n 1, 1) := by decide +kernel
theorem dL_law_340 : decode cL_law 340 = .ok (.invokestatic 92, 3) := by decide +kernel
theorem dL_law_343 : decode cL_law 343 = .ok (.lload 10, 2) := by decide +kernel
theorem dL_law_345 : decode cL_law 345 = .ok (.lcmp, 1) := by decide +kernel
theorem dL_law_346 : decode cL_law 346 = .ok (.ifCond .ne 7, 3) := by decide +kernel
theorem dL_law_349 : decode cL_law 349 = .ok (.iconst 1, 1) := by decide +kernel
theorem dL_law_350 : decode cL_law 350 = .ok (.goto 4, 3) := by decide +kernel
theorem dL_law_353 : decode cL_law 353 = .ok (.iconst 0, 1) := by decide +kernel
theorem dL_law_354 : decode cL_law 354 = .ok (.istore_n 2, 1) := by decide +kernel
theorem dL_law_355 : decode cL_law 355 = .ok (.iinc 3 1, 3) := by decide +kernel
theorem dL_law_358 : decode cL_law 358 = .ok (.goto (-240), 3) := by decide +kernel
theorem dL_law_361 : decode cL_law 361 = .ok (.iload_n 2, 1) := by decide +kernel
theorem dL_law_362 : decode cL_law 362 = .ok (.ifCond .eq 38, 3) := by decide +kernel
theorem dL_law_365 : decode cL_law 365 = .ok (.aload_n 1, 1) := by decide +kernel
theorem dL_law_366 : decode cL_law 366 = .ok (.iconst 1, 1) := by decide +kernel
theorem dL_law_367 : decode cL_law 367 = .ok (.invokevirtual 79, 3) := by decide +kernel
theorem dL_law_370 : decode cL_law 370 = .ok (.ifCond .ne 30, 3) := by decide +kernel
theorem dL_law_373 : decode cL_law 373 = .ok (.aload_n 1, 1) := by decide +kernel
theorem dL_law_374 : decode cL_law 374 = .ok (.bipush 6, 2) := by decide +kernel
theorem dL_law_376 : decode cL_law 376 = .ok (.invokevirtual 14, 3) := by decide +kernel
theorem dL_law_379 : decode cL_law 379 = .ok (.ifCond .ne 21, 3) := by decide +kernel
theorem dL_law_382 : decode cL_law 382 = .ok (.aload_n 1, 1) := by decide +kernel
theorem dL_law_383 : decode cL_law 383 = .ok (.invokevirtual 104, 3) := by decide +kernel
theorem dL_law_386 : decode cL_law 386 = .ok (.ifCond .lt 14, 3) := by decide +kernel
theorem dL_law_389 : decode cL_law 389 = .ok (.aload_n 1, 1) := by decide +kernel
theorem dL_law_390 : decode cL_law 390 = .ok (.invokestatic 118, 3) := by decide +kernel
theorem dL_law_393 : decode cL_law 393 = .ok (.ifCond .eq 7, 3) := by decide +kernel
theorem dL_law_396 : decode cL_law 396 = .ok (.iconst 1, 1) := by decide +kernel
theorem dL_law_397 : decode cL_law 397 = .ok (.goto 4, 3) := by decide +kernel
theorem dL_law_400 : decode cL_law 400 = .ok (.iconst 0, 1) := by decide +kernel
theorem dL_law_401 : decode cL_law 401 = .ok (.ireturn, 1) := by decide +kernel
