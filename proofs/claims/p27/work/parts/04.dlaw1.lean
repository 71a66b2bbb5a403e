set_option maxRecDepth 20000 in
theorem ggL_seen_X4_count : GoodIn wsL_seen wsX4_count := goodIn_r _ [7, 8, 9, 10, 11, 12, 13, 14, 15, 16, 17, 18, 19, 20, 21, 22, 23, 24, 6, 25, 26, 27, 28, 29, 30, 31, 32, 33, 34, 35, 36, 37, 38, 39, 40, 41, 42, 43, 44, 45, 46, 47, 48, 114, 115, 116, 117, 118, 119, 120, 121, 122, 123, 124, 125, 126, 127, 128, 129, 130, 131, 132, 133, 134, 135, 136] (by decide +kernel) (by decide +kernel)
set_option maxRecDepth 20000 in
theorem gL_seen_X4_count : GoodIn wsL_seen (wsV RL 14 RX4 yX4_count wsX4_count) := goodIn_app (goodIn_of _ (by decide +kernel)) ggL_seen_X4_count
set_option maxRecDepth 20000 in
theorem ggL_seen_X4_holds : GoodIn wsL_seen wsX4_holds := goodIn_r _ [52, 8, 53, 54, 55, 6, 56, 57, 58, 59, 60, 40, 41, 114, 115, 116, 117, 118, 119, 120, 121, 122, 123, 124, 125, 126, 127, 128, 129, 130, 131, 132] (by decide +kernel) (by decide +kernel)
set_option maxRecDepth 20000 in
theorem gL_seen_X4_holds : GoodIn wsL_seen (wsV RL 20 RX4 yX4_holds wsX4_holds) := goodIn_app (goodIn_of _ (by decide +kernel)) ggL_seen_X4_holds
set_option maxRecDepth 20000 in
theorem ggL_seen_X4_puddle : GoodIn wsL_seen wsX4_puddle := goodIn_r _ [64, 8, 65, 11, 66, 57, 58, 6, 59, 67, 68, 69, 29, 70, 71, 72, 73, 74, 75, 76, 77, 78, 79, 80, 81, 82, 83, 84, 85, 86, 87, 35, 36, 37, 38, 39, 40, 41, 114, 115, 116, 117, 118, 119, 120, 121, 122, 123, 124, 125, 126, 127, 128, 129, 130, 131, 132] (by decide +kernel) (by decide +kernel)
set_option maxRecDepth 20000 in
theorem gL_seen_X4_puddle : GoodIn wsL_seen (wsV RL 24 RX4 yX4_puddle wsX4_puddle) := goodIn_app (goodIn_of _ (by decide +kernel)) ggL_seen_X4_puddle
set_option maxRecDepth 20000 in
theorem ggL_seen_X4_walker : GoodIn wsL_seen wsX4_walker := goodIn_r _ [91, 8, 92, 17, 18, 93, 54, 55, 6, 56, 94, 32, 33, 29, 34, 35, 36, 37, 38, 39, 40, 41, 95, 96, 97, 98, 99, 100, 101, 102, 103, 104, 105, 106, 107, 108, 80, 81, 82, 83, 77, 78, 109, 68, 69, 70, 71, 110, 73, 74, 75, 76, 111, 112, 113, 114, 115, 116, 117, 118, 119, 120, 121, 122, 123, 124, 125, 126, 127, 128, 129, 130, 131, 132] (by decide +kernel) (by decide +kernel)
set_option maxRecDepth 20000 in
theorem gL_seen_X4_walker : GoodIn wsL_seen (wsV RL 27 RX4 yX4_walker wsX4_walker) := goodIn_app (goodIn_of _ (by decide +kernel)) ggL_seen_X4_walker
theorem dL_seen_0 : decode cL_seen 0 = .ok (.ldc2_w 10, 3) := by decide +kernel
theorem dL_seen_3 : decode cL_seen 3 = .ok (.lstore_n 1, 1) := by decide +kernel
theorem dL_seen_4 : decode cL_seen 4 = .ok (.iconst 0, 1) := by decide +kernel
theorem dL_seen_5 : decode cL_seen 5 = .ok (.istore_n 3, 1) := by decide +kernel
theorem dL_seen_6 : decode cL_seen 6 = .ok (.iload_n 3, 1) := by decide +kernel
theorem dL_seen_7 : decode cL_seen 7 = .ok (.bipush 14, 2) := by decide +kernel
theorem dL_seen_9 : decode cL_seen 9 = .ok (.if_icmp .ge 22, 3) := by decide +kernel
theorem dL_seen_12 : decode cL_seen 12 = .ok (.ldc2_w 12, 3) := by decide +kernel
theorem dL_seen_15 : decode cL_seen 15 = .ok (.lload_n 1, 1) := by decide +kernel
theorem dL_seen_16 : decode cL_seen 16 = .ok (.lmul, 1) := by decide +kernel
theorem dL_seen_17 : decode cL_seen 17 = .ok (.aload_n 0, 1) := by decide +kernel
theorem dL_seen_18 : decode cL_seen 18 = .ok (.iload_n 3, 1) := by decide +kernel
theorem dL_seen_19 : decode cL_seen 19 = .ok (.invokevirtual 14, 3) := by decide +kernel
theorem dL_seen_22 : decode cL_seen 22 = .ok (.i2l, 1) := by decide +kernel
theorem dL_seen_23 : decode cL_seen 23 = .ok (.ladd, 1) := by decide +kernel
theorem dL_seen_24 : decode cL_seen 24 = .ok (.lstore_n 1, 1) := by decide +kernel
theorem dL_seen_25 : decode cL_seen 25 = .ok (.iinc 3 1, 3) := by decide +kernel
theorem dL_seen_28 : decode cL_seen 28 = .ok (.goto (-22), 3) := by decide +kernel
theorem dL_seen_31 : decode cL_seen 31 = .ok (.iconst 0, 1) := by decide +kernel
theorem dL_seen_32 : decode cL_seen 32 = .ok (.istore_n 3, 1) := by decide +kernel
theorem dL_seen_33 : decode cL_seen 33 = .ok (.iload_n 3, 1) := by decide +kernel
theorem dL_seen_34 : decode cL_seen 34 = .ok (.bipush 72, 2) := by decide +kernel
theorem dL_seen_36 : decode cL_seen 36 = .ok (.if_icmp .ge 65, 3) := by decide +kernel
theorem dL_seen_39 : decode cL_seen 39 = .ok (.ldc2_w 12, 3) := by decide +kernel
theorem dL_seen_42 : decode cL_seen 42 = .ok (.ldc2_w 12, 3) := by decide +kernel
theorem dL_seen_45 : decode cL_seen 45 = .ok (.ldc2_w 12, 3) := by decide +kernel
theorem dL_seen_48 : decode cL_seen 48 = .ok (.lload_n 1, 1) := by decide +kernel
theorem dL_seen_49 : decode cL_seen 49 = .ok (.lmul, 1) := by decide +kernel
theorem dL_seen_50 : decode cL_seen 50 = .ok (.aload_n 0, 1) := by decide +kernel
theorem dL_seen_51 : decode cL_seen 51 = .ok (.iload_n 3, 1) := by decide +kernel
theorem dL_seen_52 : decode cL_seen 52 = .ok (.bipush 12, 2) := by decide +kernel
theorem dL_seen_54 : decode cL_seen 54 = .ok (.idiv, 1) := by decide +kernel
theorem dL_seen_55 : decode cL_seen 55 = .ok (.iload_n 3, 1) := by decide +kernel
theorem dL_seen_56 : decode cL_seen 56 = .ok (.bipush 12, 2) := by decide +kernel
theorem dL_seen_58 : decode cL_seen 58 = .ok (.irem, 1) := by decide +kernel
theorem dL_seen_59 : decode cL_seen 59 = .ok (.invokevirtual 20, 3) := by decide +kernel
theorem dL_seen_62 : decode cL_seen 62 = .ok (.i2l, 1) := by decide +kernel
theorem dL_seen_63 : decode cL_seen 63 = .ok (.ladd, 1) := by decide +kernel
theorem dL_seen_64 : decode cL_seen 64 = .ok (.lmul, 1) := by decide +kernel
theorem dL_seen_65 : decode cL_seen 65 = .ok (.aload_n 0, 1) := by decide +kernel
theorem dL_seen_66 : decode cL_seen 66 = .ok (.iload_n 3, 1) := by decide +kernel
theorem dL_seen_67 : decode cL_seen 67 = .ok (.bipush 6, 2) := by decide +kernel
theorem dL_seen_69 : decode cL_seen 69 = .ok (.idiv, 1) := by decide +kernel
theorem dL_seen_70 : decode cL_seen 70 = .ok (.iload_n 3, 1) := by decide +kernel
theorem dL_seen_71 : decode cL_seen 71 = .ok (.bipush 6, 2) := by decide +kernel
theorem dL_seen_73 : decode cL_seen 73 = .ok (.irem, 1) := by decide +kernel
theorem dL_seen_74 : decode cL_seen 74 = .ok (.invokevirtual 24, 3) := by decide +kernel
theorem dL_seen_77 : decode cL_seen 77 = .ok (.i2l, 1) := by decide +kernel
theorem dL_seen_78 : decode cL_seen 78 = .ok (.ladd, 1) := by decide +kernel
theorem dL_seen_79 : decode cL_seen 79 = .ok (.lmul, 1) := by decide +kernel
theorem dL_seen_80 : decode cL_seen 80 = .ok (.aload_n 0, 1) := by decide +kernel
theorem dL_seen_81 : decode cL_seen 81 = .ok (.iload_n 3, 1) := by decide +kernel
theorem dL_seen_82 : decode cL_seen 82 = .ok (.bipush 12, 2) := by decide +kernel
theorem dL_seen_84 : decode cL_seen 84 = .ok (.idiv, 1) := by decide +kernel
theorem dL_seen_85 : decode cL_seen 85 = .ok (.iload_n 3, 1) := by decide +kernel
theorem dL_seen_86 : decode cL_seen 86 = .ok (.bipush 6, 2) := by decide +kernel
theorem dL_seen_88 : decode cL_seen 88 = .ok (.irem, 1) := by decide +kernel
theorem dL_seen_89 : decode cL_seen 89 = .ok (.invokevirtual 27, 3) := by decide +kernel
theorem dL_seen_92 : decode cL_seen 92 = .ok (.i2l, 1) := by decide +kernel
theorem dL_seen_93 : decode cL_seen 93 = .ok (.ladd, 1) := by decide +kernel
theorem dL_seen_94 : decode cL_seen 94 = .ok (.lstore_n 1, 1) := by decide +kernel
theorem dL_seen_95 : decode cL_seen 95 = .ok (.iinc 3 1, 3) := by decide +kernel
theorem dL_seen_98 : decode cL_seen 98 = .ok (.goto (-65), 3) := by decide +kernel
theorem dL_seen_101 : decode cL_seen 101 = .ok (.lload_n 1, 1) := by decide +kernel
theorem dL_seen_102 : decode cL_seen 102 = .ok (.lreturn, 1) := by decide +kernel
theorem dL_size_0 : decode cL_size 0 = .ok (.iconst 0, 1) := by decide +kernel
theorem dL_size_1 : decode cL_size 1 = .ok (.istore_n 1, 1) := by decide +kernel
theorem dL_size_2 : decode cL_size 2 = .ok (.iload_n 0, 1) := by decide +kernel
theorem dL_size_3 : decode cL_size 3 = .ok (.istore_n 2, 1) := by decide +kernel
theorem dL_size_4 : decode cL_size 4 = .ok (.iload_n 2, 1) := by decide +kernel
theorem dL_size_5 : decode cL_size 5 = .ok (.ifCond .eq 15, 3) := by decide +kernel
theorem dL_size_8 : decode cL_size 8 = .ok (.iinc 1 1, 3) := by decide +kernel
theorem dL_size_11 : decode cL_size 11 = .ok (.iload_n 2, 1) := by decide +kernel
theorem dL_size_12 : decode cL_size 12 = .ok (.iload_n 2, 1) := by decide +kernel
theorem dL_size_13 : decode cL_size 13 = .ok (.iconst 1, 1) := by decide +kernel
theorem dL_size_14 : decode cL_size 14 = .ok (.isub, 1) := by decide +kernel
theorem dL_size_15 : decode cL_size 15 = .ok (.iand, 1) := by decide +kernel
theorem dL_size_16 : decode cL_size 16 = .ok (.istore_n 2, 1) := by decide +kernel
theorem dL_size_17 : decode cL_size 17 = .ok (.goto (-13), 3) := by decide +kernel
theorem dL_size_20 : decode cL_size 20 = .ok (.iload_n 1, 1) := by decide +kernel
theorem dL_size_21 : decode cL_size 21 = .ok (.ireturn, 1) := by decide +kernel
set_option maxRecDepth 20000 in
theorem ggL_areAll_X4_puddle : GoodIn wsL_areAll wsX4_puddle := goodIn_r _ [5, 6, 7, 8, 9, 10, 11, 4, 12, 13, 14, 15, 16, 17, 18, 19, 20, 21, 22, 23, 24, 25, 26, 27, 28, 29, 30, 31, 32, 33, 34, 35, 36, 37, 38, 39, 40, 41, 138, 139, 140, 141, 142, 143, 144, 145, 146, 147, 148, 149, 150, 151, 152, 153, 154, 155, 156] (by decide +kernel) (by decide +kernel)
set_option maxRecDepth 20000 in
theorem gL_areAll_X4_puddle : GoodIn wsL_areAll (wsV RL 24 RX4 yX4_puddle wsX4_puddle) := goodIn_app (goodIn_of _ (by decide +kernel)) ggL_areAll_X4_puddle
set_option maxRecDepth 20000 in
theorem ggL_areAll_L_size : GoodIn wsL_areAll wsL_size := goodIn_r _ [45] (by decide +kernel) (by decide +kernel)
set_option maxRecDepth 20000 in
theorem gL_areAll_L_size : GoodIn wsL_areAll (va_wsS RL 30 yL_size wsL_size) := goodIn_app (goodIn_of _ (by decide +kernel)) ggL_areAll_L_size
set_option maxRecDepth 20000 in
theorem ggL_areAll_X4_untilDry : GoodIn wsL_areAll wsX4_untilDry := goodIn_r _ [49, 6, 8, 50, 10, 11, 4, 12, 19, 20, 21, 16, 22, 23, 24, 25, 138, 139, 140, 141, 142, 143, 144, 145, 146, 147, 148, 149, 150, 151, 152, 153, 154, 155, 156] (by decide +kernel) (by decide +kernel)
set_option maxRecDepth 20000 in
theorem gL_areAll_X4_untilDry : GoodIn wsL_areAll (wsV RL 35 RX4 yX4_untilDry wsX4_untilDry) := goodIn_app (goodIn_of _ (by decide +kernel)) ggL_areAll_X4_untilDry
set_option maxRecDepth 20000 in
theorem ggL_areAll_X4_count : GoodIn wsL_areAll wsX4_count := goodIn_r _ [54, 6, 50, 55, 8, 56, 57, 58, 59, 60, 61, 62, 63, 64, 65, 66, 67, 68, 4, 69, 70, 71, 72, 16, 73, 74, 75, 76, 77, 35, 36, 37, 38, 39, 40, 41, 78, 79, 80, 81, 82, 83, 84, 138, 139, 140, 141, 142, 143, 144, 145, 146, 147, 148, 149, 150, 151, 152, 153, 154, 155, 156, 157, 158, 159, 160] (by decide +kernel) (by decide +kernel)
set_option maxRecDepth 20000 in
theorem gL_areAll_X4_count : GoodIn wsL_areAll (wsV RL 14 RX4 yX4_count wsX4_count) := goodIn_app (goodIn_of _ (by decide +kernel)) ggL_areAll_X4_count
set_option maxRecDepth 20000 in
theorem ggL_areAll_X4_walker : GoodIn wsL_areAll wsX4_walker := goodIn_r _ [88, 6, 89, 61, 62, 90, 91, 92, 4, 93, 94, 75, 76, 16, 77, 35, 36, 37, 38, 39, 40, 41, 95, 96, 97, 98, 99, 100, 101, 102, 103, 104, 105, 106, 107, 108, 27, 28, 29, 30, 24, 25, 109, 14, 15, 17, 18, 110, 20, 21, 22, 23, 111, 112, 113, 138, 139, 140, 141, 142, 143, 144, 145, 146, 147, 148, 149, 150, 151, 152, 153, 154, 155, 156] (by decide +kernel) (by decide +kernel)
set_option maxRecDepth 20000 in
theorem gL_areAll_X4_walker : GoodIn wsL_areAll (wsV RL 27 RX4 yX4_walker wsX4_walker) := goodIn_app (goodIn_of _ (by decide +kernel)) ggL_areAll_X4_walker
set_option maxRecDepth 20000 in
theorem ggL_areAll_X4_leastShoes : GoodIn wsL_areAll wsX4_leastShoes := goodIn_r _ [117, 6, 91, 92, 4, 93, 118, 119, 120, 16, 121, 104, 105, 106, 107, 108, 27, 28, 29, 30, 24, 25, 35, 36, 37, 38, 39, 40, 41, 109, 14, 15, 17, 18, 110, 20, 21, 22, 23, 111, 112, 113, 138, 139, 140, 141, 142, 143, 144, 145, 146, 147, 148, 149, 150, 151, 152, 153, 154, 155, 156] (by decide +kernel) (by decide +kernel)
set_option maxRecDepth 20000 in
theorem gL_areAll_X4_leastShoes : GoodIn wsL_areAll (wsV RL 38 RX4 yX4_leastShoes wsX4_leastShoes) := goodIn_app (goodIn_of _ (by decide +kernel)) ggL_areAll_X4_leastShoes
set_option maxRecDepth 20000 in
theorem ggL_areAll_X4_longestWalk : GoodIn wsL_areAll wsX4_longestWalk := goodIn_r _ [125, 6, 91, 92, 4, 93, 95, 96, 97, 16, 98, 99, 100, 101, 102, 103, 104, 105, 106, 107, 108, 27, 28, 29, 30, 24, 25, 35, 36, 37, 38, 39, 40, 41, 109, 14, 15, 17, 18, 110, 20, 21, 22, 23, 111, 112, 113, 126, 138, 139, 140, 141, 142, 143, 144, 145, 146, 147, 148, 149, 150, 151, 152, 153, 154, 155, 156] (by decide +kernel) (by decide +kernel)
set_option maxRecDepth 20000 in
theorem gL_areAll_X4_longestWalk : GoodIn wsL_areAll (wsV RL 41 RX4 yX4_longestWalk wsX4_longestWalk) := goodIn_app (goodIn_of _ (by decide +kernel)) ggL_areAll_X4_longestWalk
set_option maxRecDepth 20000 in
theorem ggL_areAll_X4_why : GoodIn wsL_areAll wsX4_why := goodIn_r _ [130, 6, 89, 91, 92, 4, 93, 10, 11, 12, 131, 105, 106, 16, 107, 108, 27, 28, 29, 30, 24, 25, 35, 36, 37, 38, 39, 40, 41, 109, 14, 15, 17, 18, 110, 20, 21, 22, 23, 111, 112, 113, 138, 139, 140, 141, 142, 143, 144, 145, 146, 147, 148, 149, 150, 151, 152, 153, 154, 155, 156] (by decide +kernel) (by decide +kernel)
set_option maxRecDepth 20000 in
theorem gL_areAll_X4_why : GoodIn wsL_areAll (wsV RL 44 RX4 yX4_why wsX4_why) := goodIn_app (goodIn_of _ (by decide +kernel)) ggL_areAll_X4_why
set_option maxRecDepth 20000 in
theorem ggL_areAll_X4_holds : GoodIn wsL_areAll wsX4_holds := goodIn_r _ [135, 6, 136, 91, 92, 4, 93, 10, 11, 12, 137, 40, 41, 138, 139, 140, 141, 142, 143, 144, 145, 146, 147, 148, 149, 150, 151, 152, 153, 154, 155, 156] (by decide +kernel) (by decide +kernel)
set_option maxRecDepth 20000 in
theorem gL_areAll_X4_holds : GoodIn wsL_areAll (wsV RL 20 RX4 yX4_holds wsX4_holds) := goodIn_app (goodIn_of _ (by decide +kernel)) ggL_areAll_X4_holds
theorem dL_areAll_0 : decode cL_areAll 0 = .ok (.iconst 0, 1) := by decide +kernel
theorem dL_areAll_1 : decode cL_areAll 1 = .ok (.istore_n 1, 1) := by decide +kernel
theorem dL_areAll_2 : decode cL_areAll 2 = .ok (.iconst 0, 1) := by decide +kernel
theorem dL_areAll_3 : decode cL_areAll 3 = .ok (.istore_n 2, 1) := by decide +kernel
theorem dL_areAll_4 : decode cL_areAll 4 = .ok (.iconst 0, 1) := by decide +kernel
theorem dL_areAll_5 : decode cL_areAll 5 = .ok (.istore_n 3, 1) := by decide +kernel
theorem dL_areAll_6 : decode cL_areAll 6 = .ok (.iconst 0, 1) := by decide +kernel
theorem dL_areAll_7 : decode cL_areAll 7 = .ok (.istore 4, 2) := by decide +kernel
theorem dL_areAll_9 : decode cL_areAll 9 = .ok (.iconst 0, 1) := by decide +kernel
theorem dL_areAll_10 : decode cL_areAll 10 = .ok (.istore 5, 2) := by decide +kernel
theorem dL_areAll_12 : decode cL_areAll 12 = .ok (.iconst 1, 1) := by decide +kernel
theorem dL_areAll_13 : decode cL_areAll 13 = .ok (.istore 6, 2) := by decide +kernel
theorem dL_areAll_15 : decode cL_areAll 15 = .ok (.iconst 0, 1) := by decide +kernel
theorem dL_areAll_16 : decode cL_areAll 16 = .ok (.istore 7, 2) := by decide +kernel
theorem dL_areAll_18 : decode cL_areAll 18 = .ok (.iload 7, 2) := by decide +kernel
theorem dL_areAll_20 : decode cL_areAll 20 = .ok (.bipush 12, 2) := by decide +kernel
theorem dL_areAll_22 : decode cL_areAll 22 = .ok (.if_icmp .ge 251, 3) := by decide +kernel
theorem dL_areAll_25 : decode cL_areAll 25 = .ok (.iload 6, 2) := by decide +kernel
theorem dL_areAll_27 : decode cL_areAll 27 = .ok (.ifCond .eq 246, 3) := by decide +kernel
theorem dL_areAll_30 : decode cL_areAll 30 = .ok (.aload_n 0, 1) := by decide +kernel
theorem dL_areAll_31 : decode cL_areAll 31 = .ok (.iload 7, 2) := by decide +kernel
theorem dL_areAll_33 : decode cL_areAll 33 = .ok (.iconst 1, 1) := by decide +kernel
theorem dL_areAll_34 : decode cL_areAll 34 = .ok (.invokevirtual 24, 3) := by decide +kernel
theorem dL_areAll_37 : decode cL_areAll 37 = .ok (.istore 8, 2) := by decide +kernel
theorem dL_areAll_39 : decode cL_areAll 39 = .ok (.iload_n 1, 1) := by decide +kernel
theorem dL_areAll_40 : decode cL_areAll 40 = .ok (.iload 8, 2) := by decide +kernel
theorem dL_areAll_42 : decode cL_areAll 42 = .ok (.iadd, 1) := by decide +kernel
theorem dL_areAll_43 : decode cL_areAll 43 = .ok (.istore_n 1, 1) := by decide +kernel
theorem dL_areAll_44 : decode cL_areAll 44 = .ok (.iload_n 2, 1) := by decide +kernel
theorem dL_areAll_45 : decode cL_areAll 45 = .ok (.aload_n 0, 1) := by decide +kernel
theorem dL_areAll_46 : decode cL_areAll 46 = .ok (.iload 7, 2) := by decide +kernel
theorem dL_areAll_48 : decode cL_areAll 48 = .ok (.iconst 3, 1) := by decide +kernel
theorem dL_areAll_49 : decode cL_areAll 49 = .ok (.invokevirtual 24, 3) := by decide +kernel
theorem dL_areAll_52 : decode cL_areAll 52 = .ok (.iload 7, 2) := by decide +kernel
theorem dL_areAll_54 : decode cL_areAll 54 = .ok (.ishl, 1) := by decide +kernel
theorem dL_areAll_55 : decode cL_areAll 55 = .ok (.ior, 1) := by decide +kernel
theorem dL_areAll_56 : decode cL_areAll 56 = .ok (.istore_n 2, 1) := by decide +kernel
theorem dL_areAll_57 : decode cL_areAll 57 = .ok (.iload_n 3, 1) := by decide +kernel
theorem dL_areAll_58 : decode cL_areAll 58 = .ok (.aload_n 0, 1) := by decide +kernel
theorem dL_areAll_59 : decode cL_areAll 59 = .ok (.iload 7, 2) := by decide +kernel
theorem dL_areAll_61 : decode cL_areAll 61 = .ok (.iconst 4, 1) := by decide +kernel
theorem dL_areAll_62 : decode cL_areAll 62 = .ok (.invokevirtual 24, 3) := by decide +kernel
theorem dL_areAll_65 : decode cL_areAll 65 = .ok (.iload 7, 2) := by decide +kernel
theorem dL_areAll_67 : decode cL_areAll 67 = .ok (.ishl, 1) := by decide +kernel
theorem dL_areAll_68 : decode cL_areAll 68 = .ok (.ior, 1) := by decide +kernel
theorem dL_areAll_69 : decode cL_areAll 69 = .ok (.istore_n 3, 1) := by decide +kernel
theorem dL_areAll_70 : decode cL_areAll 70 = .ok (.iload 4, 2) := by decide +kernel
theorem dL_areAll_72 : decode cL_areAll 72 = .ok (.aload_n 0, 1) := by decide +kernel
theorem dL_areAll_73 : decode cL_areAll 73 = .ok (.iload 7, 2) := by decide +kernel
theorem dL_areAll_75 : decode cL_areAll 75 = .ok (.iconst 5, 1) := by decide +kernel
theorem dL_areAll_76 : decode cL_areAll 76 = .ok (.invokevirtual 24, 3) := by decide +kernel
theorem dL_areAll_79 : decode cL_areAll 79 = .ok (.iadd, 1) := by decide +kernel
theorem dL_areAll_80 : decode cL_areAll 80 = .ok (.istore 4, 2) := by decide +kernel
theorem dL_areAll_82 : decode cL_areAll 82 = .ok (.iload 5, 2) := by decide +kernel
theorem dL_areAll_84 : decode cL_areAll 84 = .ok (.aload_n 0, 1) := by decide +kernel
theorem dL_areAll_85 : decode cL_areAll 85 = .ok (.iload 7, 2) := by decide +kernel
theorem dL_areAll_87 : decode cL_areAll 87 = .ok (.bipush 6, 2) := by decide +kernel
theorem dL_areAll_89 : decode cL_areAll 89 = .ok (.invokevirtual 24, 3) := by decide +kernel
theorem dL_areAll_92 : decode cL_areAll 92 = .ok (.invokestatic 30, 3) := by decide +kernel
theorem dL_areAll_95 : decode cL_areAll 95 = .ok (.iadd, 1) := by decide +kernel
theorem dL_areAll_96 : decode cL_areAll 96 = .ok (.istore 5, 2) := by decide +kernel
theorem dL_areAll_98 : decode cL_areAll 98 = .ok (.aload_n 0, 1) := by decide +kernel
theorem dL_areAll_99 : decode cL_areAll 99 = .ok (.iload 7, 2) := by decide +kernel
theorem dL_areAll_101 : decode cL_areAll 101 = .ok (.invokevirtual 35, 3) := by decide +kernel
theorem dL_areAll_104 : decode cL_areAll 104 = .ok (.istore 9, 2) := by decide +kernel
theorem dL_areAll_106 : decode cL_areAll 106 = .ok (.iload 8, 2) := by decide +kernel
theorem dL_areAll_108 : decode cL_areAll 108 = .ok (.ifCond .lt 156, 3) := by decide +kernel
theorem dL_areAll_111 : decode cL_areAll 111 = .ok (.iload 8, 2) := by decide +kernel
theorem dL_areAll_113 : decode cL_areAll 113 = .ok (.aload_n 0, 1) := by decide +kernel
theorem dL_areAll_114 : decode cL_areAll 114 = .ok (.iload 7, 2) := by decide +kernel
theorem dL_areAll_116 : decode cL_areAll 116 = .ok (.iconst 0, 1) := by decide +kernel
theorem dL_areAll_117 : decode cL_areAll 117 = .ok (.invokevirtual 24, 3) := by decide +kernel
theorem dL_areAll_120 : decode cL_areAll 120 = .ok (.if_icmp .gt 144, 3) := by decide +kernel
theorem dL_areAll_123 : decode cL_areAll 123 = .ok (.aload_n 0, 1) := by decide +kernel
theorem dL_areAll_124 : decode cL_areAll 124 = .ok (.iload 7, 2) := by decide +kernel
theorem dL_areAll_126 : decode cL_areAll 126 = .ok (.iconst 0, 1) := by decide +kernel
theorem dL_areAll_127 : decode cL_areAll 127 = .ok (.invokevirtual 24, 3) := by decide +kernel
theorem dL_areAll_130 : decode cL_areAll 130 = .ok (.ifCond .le 134, 3) := by decide +kernel
theorem dL_areAll_133 : decode cL_areAll 133 = .ok (.aload_n 0, 1) := by decide +kernel
theorem dL_areAll_134 : decode cL_areAll 134 = .ok (.iload 7, 2) := by decide +kernel
theorem dL_areAll_136 : decode cL_areAll 136 = .ok (.iconst 0, 1) := by decide +kernel
theorem dL_areAll_137 : decode cL_areAll 137 = .ok (.invokevirtual 24, 3) := by decide +kernel
theorem dL_areAll_140 : decode cL_areAll 140 = .ok (.bipush 60, 2) := by decide +kernel
theorem dL_areAll_142 : decode cL_areAll 142 = .ok (.if_icmp .gt 122, 3) := by decide +kernel
theorem dL_areAll_145 : decode cL_areAll 145 = .ok (.aload_n 0, 1) := by decide +kernel
theorem dL_areAll_146 : decode cL_areAll 146 = .ok (.iload 7, 2) := by decide +kernel
theorem dL_areAll_148 : decode cL_areAll 148 = .ok (.iconst 2, 1) := by decide +kernel
theorem dL_areAll_149 : decode cL_areAll 149 = .ok (.invokevirtual 24, 3) := by decide +kernel
theorem dL_areAll_152 : decode cL_areAll 152 = .ok (.iload 8, 2) := by decide +kernel
theorem dL_areAll_154 : decode cL_areAll 154 = .ok (.iconst 5, 1) := by decide +kernel
theorem dL_areAll_155 : decode cL_areAll 155 = .ok (.idiv, 1) := by decide +kernel
theorem dL_areAll_156 : decode cL_areAll 156 = .ok (.if_icmp .ne 108, 3) := by decide +kernel
theorem dL_areAll_159 : decode cL_areAll 159 = .ok (.aload_n 0, 1) := by decide +kernel
theorem dL_areAll_160 : decode cL_areAll 160 = .ok (.iload 7, 2) := by decide +kernel
theorem dL_areAll_162 : decode cL_areAll 162 = .ok (.iconst 3, 1) := by decide +kernel
theorem dL_areAll_163 : decode cL_areAll 163 = .ok (.invokevirtual 24, 3) := by decide +kernel
theorem dL_areAll_166 : decode cL_areAll 166 = .ok (.ifCond .lt 98, 3) := by decide +kernel
theorem dL_areAll_169 : decode cL_areAll 169 = .ok (.aload_n 0, 1) := by decide +kernel
theorem dL_areAll_170 : decode cL_areAll 170 = .ok (.iload 7, 2) := by decide +kernel
theorem dL_areAll_172 : decode cL_areAll 172 = .ok (.iconst 3, 1) := by decide +kernel
theorem dL_areAll_173 : decode cL_areAll 173 = .ok (.invokevirtual 24, 3) := by decide +kernel
theorem dL_areAll_176 : decode cL_areAll 176 = .ok (.iconst 2, 1) := by decide +kernel
theorem dL_areAll_177 : decode cL_areAll 177 = .ok (.if_icmp .ge 87, 3) := by decide +kernel
theorem dL_areAll_180 : decode cL_areAll 180 = .ok (.aload_n 0, 1) := by decide +kernel
theorem dL_areAll_181 : decode cL_areAll 181 = .ok (.iload 7, 2) := by decide +kernel
theorem dL_areAll_183 : decode cL_areAll 183 = .ok (.bipush 6, 2) := by decide +kernel
theorem dL_areAll_185 : decode cL_areAll 185 = .ok (.invokevirtual 24, 3) := by decide +kernel
theorem dL_areAll_188 : decode cL_areAll 188 = .ok (.ifCond .lt 76, 3) := by decide +kernel
theorem dL_areAll_191 : decode cL_areAll 191 = .ok (.aload_n 0, 1) := by decide +kernel
theorem dL_areAll_192 : decode cL_areAll 192 = .ok (.iload 7, 2) := by decide +kernel
theorem dL_areAll_194 : decode cL_areAll 194 = .ok (.bipush 6, 2) := by decide +kernel
theorem dL_areAll_196 : decode cL_areAll 196 = .ok (.invokevirtual 24, 3) := by decide +kernel
theorem dL_areAll_199 : decode cL_areAll 199 = .ok (.bipush 64, 2) := by decide +kernel
theorem dL_areAll_201 : decode cL_areAll 201 = .ok (.if_icmp .ge 63, 3) := by decide +kernel
theorem dL_areAll_204 : decode cL_areAll 204 = .ok (.iload 9, 2) := by decide +kernel
theorem dL_areAll_206 : decode cL_areAll 206 = .ok (.ifCond .ne 7, 3) := by decide +kernel
theorem dL_areAll_209 : decode cL_areAll 209 = .ok (.iconst 1, 1) := by decide +kernel
theorem dL_areAll_210 : decode cL_areAll 210 = .ok (.goto 4, 3) := by decide +kernel
theorem dL_areAll_213 : decode cL_areAll 213 = .ok (.iconst 0, 1) := by decide +kernel
theorem dL_areAll_214 : decode cL_areAll 214 = .ok (.iload 8, 2) := by decide +kernel
theorem dL_areAll_216 : decode cL_areAll 216 = .ok (.ifCond .ne 7, 3) := by decide +kernel
theorem dL_areAll_219 : decode cL_areAll 219 = .ok (.iconst 1, 1) := by decide +kernel
theorem dL_areAll_220 : decode cL_areAll 220 = .ok (.goto 4, 3) := by decide +kernel
theorem dL_areAll_223 : decode cL_areAll 223 = .ok (.iconst 0, 1) := by decide +kernel
theorem dL_areAll_224 : decode cL_areAll 224 = .ok (.if_icmp .ne 40, 3) := by decide +kernel
theorem dL_areAll_227 : decode cL_areAll 227 = .ok (.iload 9, 2) := by decide +kernel
theorem dL_areAll_229 : decode cL_areAll 229 = .ok (.bipush (-6), 2) := by decide +kernel
theorem dL_areAll_231 : decode cL_areAll 231 = .ok (.if_icmp .ne 7, 3) := by decide +kernel
theorem dL_areAll_234 : decode cL_areAll 234 = .ok (.iconst 1, 1) := by decide +kernel
theorem dL_areAll_235 : decode cL_areAll 235 = .ok (.goto 4, 3) := by decide +kernel
theorem dL_areAll_238 : decode cL_areAll 238 = .ok (.iconst 0, 1) := by decide +kernel
theorem dL_areAll_239 : decode cL_areAll 239 = .ok (.iload 8, 2) := by decide +kernel
theorem dL_areAll_241 : decode cL_areAll 241 = .ok (.ifCond .le 15, 3) := by decide +kernel
theorem dL_areAll_244 : decode cL_areAll 244 = .ok (.aload_n 0, 1) := by decide +kernel
theorem dL_areAll_245 : decode cL_areAll 245 = .ok (.iconst 1, 1) := by decide +kernel
theorem dL_areAll_246 : decode cL_areAll 246 = .ok (.invokevirtual 14, 3) := by decide +kernel
theorem dL_areAll_249 : decode cL_areAll 249 = .ok (.ifCond .ne 7, 3) := by decide +kernel
theorem dL_areAll_252 : decode cL_areAll 252 = .ok (.iconst 1, 1) := by decide +kernel
theorem dL_areAll_253 : decode cL_areAll 253 = .ok (.goto 4, 3) := by decide +kernel
theorem dL_areAll_256 : decode cL_areAll 256 = .ok (.iconst 0, 1) := by decide +kernel
theorem dL_areAll_257 : decode cL_areAll 257 = .ok (.if_icmp .ne 7, 3) := by decide +kernel
theorem dL_areAll_260 : decode cL_areAll 260 = .ok (.iconst 1, 1) := by decide +kernel
theorem dL_areAll_261 : decode cL_areAll 261 = .ok (.goto 4, 3) := by decide +kernel
theorem dL_areAll_264 : decode cL_areAll 264 = .ok (.iconst 0, 1) := by decide +kernel
theorem dL_areAll_265 : decode cL_areAll 265 = .ok (.istore 6, 2) := by decide +kernel
theorem dL_areAll_267 : decode cL_areAll 267 = .ok (.iinc 7 1, 3) := by decide +kernel
theorem dL_areAll_270 : decode cL_areAll 270 = .ok (.goto (-252), 3) := by decide +kernel
theorem dL_areAll_273 : decode cL_areAll 273 = .ok (.iconst 0, 1) := by decide +kernel
theorem dL_areAll_274 : decode cL_areAll 274 = .ok (.istore 7, 2) := by decide +kernel
theorem dL_areAll_276 : decode cL_areAll 276 = .ok (.iconst 0, 1) := by decide +kernel
theorem dL_areAll_277 : decode cL_areAll 277 = .ok (.istore 8, 2) := by decide +kernel
theorem dL_areAll_279 : decode cL_areAll 279 = .ok (.iconst 0, 1) := by decide +kernel
theorem dL_areAll_280 : decode cL_areAll 280 = .ok (.istore 9, 2) := by decide +kernel
theorem dL_areAll_282 : decode cL_areAll 282 = .ok (.iconst 0, 1) := by decide +kernel
theorem dL_areAll_283 : decode cL_areAll 283 = .ok (.istore 10, 2) := by decide +kernel
theorem dL_areAll_285 : decode cL_areAll 285 = .ok (.iconst 0, 1) := by decide +kernel
theorem dL_areAll_286 : decode cL_areAll 286 = .ok (.istore 11, 2) := by decide +kernel
theorem dL_areAll_288 : decode cL_areAll 288 = .ok (.iload 11, 2) := by decide +kernel
theorem dL_areAll_290 : decode cL_areAll 290 = .ok (.bipush 6, 2) := by decide +kernel
theorem dL_areAll_292 : decode cL_areAll 292 = .ok (.if_icmp .ge 504, 3) := by decide +kernel
theorem dL_areAll_295 : decode cL_areAll 295 = .ok (.iload 6, 2) := by decide +kernel
theorem dL_areAll_297 : decode cL_areAll 297 = .ok (.ifCond .eq 499, 3) := by decide +kernel
theorem dL_areAll_300 : decode cL_areAll 300 = .ok (.aload_n 0, 1) := by decide +kernel
theorem dL_areAll_301 : decode cL_areAll 301 = .ok (.iload 11, 2) := by decide +kernel
theorem dL_areAll_303 : decode cL_areAll 303 = .ok (.iconst 5, 1) := by decide +kernel
theorem dL_areAll_304 : decode cL_areAll 304 = .ok (.invokevirtual 27, 3) := by decide +kernel
theorem dL_areAll_307 : decode cL_areAll 307 = .ok (.istore 12, 2) := by decide +kernel
theorem dL_areAll_309 : decode cL_areAll 309 = .ok (.aload_n 0, 1) := by decide +kernel
theorem dL_areAll_310 : decode cL_areAll 310 = .ok (.iload 11, 2) := by decide +kernel
theorem dL_areAll_312 : decode cL_areAll 312 = .ok (.iconst 4, 1) := by decide +kernel
theorem dL_areAll_313 : decode cL_areAll 313 = .ok (.invokevirtual 27, 3) := by decide +kernel
theorem dL_areAll_316 : decode cL_areAll 316 = .ok (.istore 13, 2) := by decide +kernel
theorem dL_areAll_318 : decode cL_areAll 318 = .ok (.aload_n 0, 1) := by decide +kernel
theorem dL_areAll_319 : decode cL_areAll 319 = .ok (.iload 11, 2) := by decide +kernel
theorem dL_areAll_321 : decode cL_areAll 321 = .ok (.invokevirtual 38, 3) := by decide +kernel
theorem dL_areAll_324 : decode cL_areAll 324 = .ok (.istore 14, 2) := by decide +kernel
theorem dL_areAll_326 : decode cL_areAll 326 = .ok (.iload 7, 2) := by decide +kernel
theorem dL_areAll_328 : decode cL_areAll 328 = .ok (.aload_n 0, 1) := by decide +kernel
theorem dL_areAll_329 : decode cL_areAll 329 = .ok (.iload 11, 2) := by decide +kernel
theorem dL_areAll_331 : decode cL_areAll 331 = .ok (.iconst 1, 1) := by decide +kernel
theorem dL_areAll_332 : decode cL_areAll 332 = .ok (.invokevirtual 27, 3) := by decide +kernel
theorem dL_areAll_335 : decode cL_areAll 335 = .ok (.iadd, 1) := by decide +kernel
theorem dL_areAll_336 : decode cL_areAll 336 = .ok (.istore 7, 2) := by decide +kernel
theorem dL_areAll_338 : decode cL_areAll 338 = .ok (.iload 8, 2) := by decide +kernel
theorem dL_areAll_340 : decode cL_areAll 340 = .ok (.aload_n 0, 1) := by decide +kernel
theorem dL_areAll_341 : decode cL_areAll 341 = .ok (.iload 11, 2) := by decide +kernel
theorem dL_areAll_343 : decode cL_areAll 343 = .ok (.iconst 2, 1) := by decide +kernel
theorem dL_areAll_344 : decode cL_areAll 344 = .ok (.invokevirtual 27, 3) := by decide +kernel
theorem dL_areAll_347 : decode cL_areAll 347 = .ok (.iadd, 1) := by decide +kernel
theorem dL_areAll_348 : decode cL_areAll 348 = .ok (.istore 8, 2) := by decide +kernel
theorem dL_areAll_350 : decode cL_areAll 350 = .ok (.iload 9, 2) := by decide +kernel
theorem dL_areAll_352 : decode cL_areAll 352 = .ok (.aload_n 0, 1) := by decide +kernel
theorem dL_areAll_353 : decode cL_areAll 353 = .ok (.iload 11, 2) := by decide +kernel
theorem dL_areAll_355 : decode cL_areAll 355 = .ok (.iconst 3, 1) := by decide +kernel
theorem dL_areAll_356 : decode cL_areAll 356 = .ok (.invokevirtual 27, 3) := by decide +kernel
theorem dL_areAll_359 : decode cL_areAll 359 = .ok (.iadd, 1) := by decide +kernel
theorem dL_areAll_360 : decode cL_areAll 360 = .ok (.istore 9, 2) := by decide +kernel
theorem dL_areAll_362 : decode cL_areAll 362 = .ok (.iload 10, 2) := by decide +kernel
theorem dL_areAll_364 : decode cL_areAll 364 = .ok (.iload 13, 2) := by decide +kernel
theorem dL_areAll_366 : decode cL_areAll 366 = .ok (.invokestatic 30, 3) := by decide +kernel
theorem dL_areAll_369 : decode cL_areAll 369 = .ok (.iadd, 1) := by decide +kernel
theorem dL_areAll_370 : decode cL_areAll 370 = .ok (.istore 10, 2) := by decide +kernel
theorem dL_areAll_372 : decode cL_areAll 372 = .ok (.aload_n 0, 1) := by decide +kernel
theorem dL_areAll_373 : decode cL_areAll 373 = .ok (.iload 11, 2) := by decide +kernel
theorem dL_areAll_375 : decode cL_areAll 375 = .ok (.iconst 0, 1) := by decide +kernel
theorem dL_areAll_376 : decode cL_areAll 376 = .ok (.invokevirtual 27, 3) := by decide +kernel
theorem dL_areAll_379 : decode cL_areAll 379 = .ok (.ifCond .lt 128, 3) := by decide +kernel
theorem dL_areAll_382 : decode cL_areAll 382 = .ok (.aload_n 0, 1) := by decide +kernel
theorem dL_areAll_383 : decode cL_areAll 383 = .ok (.iload 11, 2) := by decide +kernel
theorem dL_areAll_385 : decode cL_areAll 385 = .ok (.iconst 0, 1) := by decide +kernel
theorem dL_areAll_386 : decode cL_areAll 386 = .ok (.invokevirtual 27, 3) := by decide +kernel
theorem dL_areAll_389 : decode cL_areAll 389 = .ok (.iconst 4, 1) := by decide +kernel
theorem dL_areAll_390 : decode cL_areAll 390 = .ok (.if_icmp .ge 117, 3) := by decide +kernel
theorem dL_areAll_393 : decode cL_areAll 393 = .ok (.aload_n 0, 1) := by decide +kernel
theorem dL_areAll_394 : decode cL_areAll 394 = .ok (.iload 11, 2) := by decide +kernel
theorem dL_areAll_396 : decode cL_areAll 396 = .ok (.iconst 1, 1) := by decide +kernel
theorem dL_areAll_397 : decode cL_areAll 397 = .ok (.invokevirtual 27, 3) := by decide +kernel
theorem dL_areAll_400 : decode cL_areAll 400 = .ok (.ifCond .lt 107, 3) := by decide +kernel
theorem dL_areAll_403 : decode cL_areAll 403 = .ok (.iload 12, 2) := by decide +kernel
theorem dL_areAll_405 : decode cL_areAll 405 = .ok (.ifCond .lt 102, 3) := by decide +kernel
theorem dL_areAll_408 : decode cL_areAll 408 = .ok (.iload 12, 2) := by decide +kernel
theorem dL_areAll_410 : decode cL_areAll 410 = .ok (.sipush 4096, 3) := by decide +kernel
theorem dL_areAll_413 : decode cL_areAll 413 = .ok (.if_icmp .ge 94, 3) := by decide +kernel
theorem dL_areAll_416 : decode cL_areAll 416 = .ok (.iload 12, 2) := by decide +kernel
theorem dL_areAll_418 : decode cL_areAll 418 = .ok (.iload_n 3, 1) := by decide +kernel
theorem dL_areAll_419 : decode cL_areAll 419 = .ok (.iand, 1) := by decide +kernel
theorem dL_areAll_420 : decode cL_areAll 420 = .ok (.ifCond .ne 87, 3) := by decide +kernel
theorem dL_areAll_423 : decode cL_areAll 423 = .ok (.iload 13, 2) := by decide +kernel
theorem dL_areAll_425 : decode cL_areAll 425 = .ok (.iload_n 3, 1) := by decide +kernel
theorem dL_areAll_426 : decode cL_areAll 426 = .ok (.iconst (-1), 1) := by decide +kernel
theorem dL_areAll_427 : decode cL_areAll 427 = .ok (.ixor, 1) := by decide +kernel
theorem dL_areAll_428 : decode cL_areAll 428 = .ok (.iand, 1) := by decide +kernel
theorem dL_areAll_429 : decode cL_areAll 429 = .ok (.iload 12, 2) := by decide +kernel
theorem dL_areAll_431 : decode cL_areAll 431 = .ok (.iconst (-1), 1) := by decide +kernel
theorem dL_areAll_432 : decode cL_areAll 432 = .ok (.ixor, 1) := by decide +kernel
theorem dL_areAll_433 : decode cL_areAll 433 = .ok (.iand, 1) := by decide +kernel
theorem dL_areAll_434 : decode cL_areAll 434 = .ok (.ifCond .ne 73, 3) := by decide +kernel
theorem dL_areAll_437 : decode cL_areAll 437 = .ok (.iload 14, 2) := by decide +kernel
theorem dL_areAll_439 : decode cL_areAll 439 = .ok (.bipush (-6), 2) := by decide +kernel
theorem dL_areAll_441 : decode cL_areAll 441 = .ok (.if_icmp .ne 14, 3) := by decide +kernel
theorem dL_areAll_444 : decode cL_areAll 444 = .ok (.iload 12, 2) := by decide +kernel
theorem dL_areAll_446 : decode cL_areAll 446 = .ok (.sipush 4095, 3) := by decide +kernel
theorem dL_areAll_449 : decode cL_areAll 449 = .ok (.if_icmp .eq 58, 3) := by decide +kernel
theorem dL_areAll_452 : decode cL_areAll 452 = .ok (.goto 36, 3) := by decide +kernel
theorem dL_areAll_455 : decode cL_areAll 455 = .ok (.iload 12, 2) := by decide +kernel
theorem dL_areAll_457 : decode cL_areAll 457 = .ok (.sipush 4095, 3) := by decide +kernel
theorem dL_areAll_460 : decode cL_areAll 460 = .ok (.if_icmp .ne 7, 3) := by decide +kernel
theorem dL_areAll_463 : decode cL_areAll 463 = .ok (.iconst 1, 1) := by decide +kernel
theorem dL_areAll_464 : decode cL_areAll 464 = .ok (.goto 4, 3) := by decide +kernel
theorem dL_areAll_467 : decode cL_areAll 467 = .ok (.iconst 0, 1) := by decide +kernel
theorem dL_areAll_468 : decode cL_areAll 468 = .ok (.aload_n 0, 1) := by decide +kernel
theorem dL_areAll_469 : decode cL_areAll 469 = .ok (.iload 11, 2) := by decide +kernel
theorem dL_areAll_471 : decode cL_areAll 471 = .ok (.iconst 0, 1) := by decide +kernel
theorem dL_areAll_472 : decode cL_areAll 472 = .ok (.invokevirtual 27, 3) := by decide +kernel
theorem dL_areAll_475 : decode cL_areAll 475 = .ok (.iload 14, 2) := by decide +kernel
theorem dL_areAll_477 : decode cL_areAll 477 = .ok (.if_icmp .lt 7, 3) := by decide +kernel
theorem dL_areAll_480 : decode cL_areAll 480 = .ok (.iconst 1, 1) := by decide +kernel
theorem dL_areAll_481 : decode cL_areAll 481 = .ok (.goto 4, 3) := by decide +kernel
theorem dL_areAll_484 : decode cL_areAll 484 = .ok (.iconst 0, 1) := by decide +kernel
theorem dL_areAll_485 : decode cL_areAll 485 = .ok (.if_icmp .ne 22, 3) := by decide +kernel
theorem dL_areAll_488 : decode cL_areAll 488 = .ok (.aload_n 0, 1) := by decide +kernel
theorem dL_areAll_489 : decode cL_areAll 489 = .ok (.iload 11, 2) := by decide +kernel
theorem dL_areAll_491 : decode cL_areAll 491 = .ok (.iconst 0, 1) := by decide +kernel
theorem dL_areAll_492 : decode cL_areAll 492 = .ok (.invokevirtual 41, 3) := by decide +kernel
theorem dL_areAll_495 : decode cL_areAll 495 = .ok (.iload 12, 2) := by decide +kernel
theorem dL_areAll_497 : decode cL_areAll 497 = .ok (.invokestatic 30, 3) := by decide +kernel
theorem dL_areAll_500 : decode cL_areAll 500 = .ok (.if_icmp .gt 7, 3) := by decide +kernel
theorem dL_areAll_503 : decode cL_areAll 503 = .ok (.iconst 1, 1) := by decide +kernel
theorem dL_areAll_504 : decode cL_areAll 504 = .ok (.goto 4, 3) := by decide +kernel
theorem dL_areAll_507 : decode cL_areAll 507 = .ok (.iconst 0, 1) := by decide +kernel
theorem dL_areAll_508 : decode cL_areAll 508 = .ok (.istore 6, 2) := by decide +kernel
theorem dL_areAll_510 : decode cL_areAll 510 = .ok (.iconst 0, 1) := by decide +kernel
theorem dL_areAll_511 : decode cL_areAll 511 = .ok (.istore 15, 2) := by decide +kernel
theorem dL_areAll_513 : decode cL_areAll 513 = .ok (.iload 15, 2) := by decide +kernel
theorem dL_areAll_515 : decode cL_areAll 515 = .ok (.bipush 12, 2) := by decide +kernel
theorem dL_areAll_517 : decode cL_areAll 517 = .ok (.if_icmp .ge 273, 3) := by decide +kernel
theorem dL_areAll_520 : decode cL_areAll 520 = .ok (.iload 6, 2) := by decide +kernel
theorem dL_areAll_522 : decode cL_areAll 522 = .ok (.ifCond .eq 268, 3) := by decide +kernel
theorem dL_areAll_525 : decode cL_areAll 525 = .ok (.aload_n 0, 1) := by decide +kernel
theorem dL_areAll_526 : decode cL_areAll 526 = .ok (.iload 11, 2) := by decide +kernel
theorem dL_areAll_528 : decode cL_areAll 528 = .ok (.iload 15, 2) := by decide +kernel
theorem dL_areAll_530 : decode cL_areAll 530 = .ok (.invokevirtual 44, 3) := by decide +kernel
theorem dL_areAll_533 : decode cL_areAll 533 = .ok (.istore 16, 2) := by decide +kernel
theorem dL_areAll_535 : decode cL_areAll 535 = .ok (.aload_n 0, 1) := by decide +kernel
theorem dL_areAll_536 : decode cL_areAll 536 = .ok (.iload 11, 2) := by decide +kernel
theorem dL_areAll_538 : decode cL_areAll 538 = .ok (.iload 15, 2) := by decide +kernel
theorem dL_areAll_540 : decode cL_areAll 540 = .ok (.invokevirtual 20, 3) := by decide +kernel
theorem dL_areAll_543 : decode cL_areAll 543 = .ok (.istore 17, 2) := by decide +kernel
theorem dL_areAll_545 : decode cL_areAll 545 = .ok (.iload 16, 2) := by decide +kernel
theorem dL_areAll_547 : decode cL_areAll 547 = .ok (.ifCond .lt 234, 3) := by decide +kernel
theorem dL_areAll_550 : decode cL_areAll 550 = .ok (.iload 16, 2) := by decide +kernel
theorem dL_areAll_552 : decode cL_areAll 552 = .ok (.iconst 4, 1) := by decide +kernel
theorem dL_areAll_553 : decode cL_areAll 553 = .ok (.if_icmp .ge 228, 3) := by decide +kernel
theorem dL_areAll_556 : decode cL_areAll 556 = .ok (.iload 16, 2) := by decide +kernel
theorem dL_areAll_558 : decode cL_areAll 558 = .ok (.ifCond .ne 7, 3) := by decide +kernel
theorem dL_areAll_561 : decode cL_areAll 561 = .ok (.iconst 1, 1) := by decide +kernel
theorem dL_areAll_562 : decode cL_areAll 562 = .ok (.goto 4, 3) := by decide +kernel
theorem dL_areAll_565 : decode cL_areAll 565 = .ok (.iconst 0, 1) := by decide +kernel
theorem dL_areAll_566 : decode cL_areAll 566 = .ok (.iload 12, 2) := by decide +kernel
theorem dL_areAll_568 : decode cL_areAll 568 = .ok (.iload 15, 2) := by decide +kernel
theorem dL_areAll_570 : decode cL_areAll 570 = .ok (.ishr, 1) := by decide +kernel
theorem dL_areAll_571 : decode cL_areAll 571 = .ok (.iconst 1, 1) := by decide +kernel
theorem dL_areAll_572 : decode cL_areAll 572 = .ok (.iand, 1) := by decide +kernel
theorem dL_areAll_573 : decode cL_areAll 573 = .ok (.iconst 1, 1) := by decide +kernel
theorem dL_areAll_574 : decode cL_areAll 574 = .ok (.if_icmp .ne 7, 3) := by decide +kernel
theorem dL_areAll_577 : decode cL_areAll 577 = .ok (.iconst 1, 1) := by decide +kernel
theorem dL_areAll_578 : decode cL_areAll 578 = .ok (.goto 4, 3) := by decide +kernel
theorem dL_areAll_581 : decode cL_areAll 581 = .ok (.iconst 0, 1) := by decide +kernel
theorem dL_areAll_582 : decode cL_areAll 582 = .ok (.if_icmp .ne 199, 3) := by decide +kernel
theorem dL_areAll_585 : decode cL_areAll 585 = .ok (.iload 16, 2) := by decide +kernel
theorem dL_areAll_587 : decode cL_areAll 587 = .ok (.iconst 1, 1) := by decide +kernel
theorem dL_areAll_588 : decode cL_areAll 588 = .ok (.if_icmp .ne 7, 3) := by decide +kernel
theorem dL_areAll_591 : decode cL_areAll 591 = .ok (.iconst 1, 1) := by decide +kernel
theorem dL_areAll_592 : decode cL_areAll 592 = .ok (.goto 4, 3) := by decide +kernel
theorem dL_areAll_595 : decode cL_areAll 595 = .ok (.iconst 0, 1) := by decide +kernel
theorem dL_areAll_596 : decode cL_areAll 596 = .ok (.iload_n 3, 1) := by decide +kernel
theorem dL_areAll_597 : decode cL_areAll 597 = .ok (.iload 15, 2) := by decide +kernel
theorem dL_areAll_599 : decode cL_areAll 599 = .ok (.ishr, 1) := by decide +kernel
theorem dL_areAll_600 : decode cL_areAll 600 = .ok (.iconst 1, 1) := by decide +kernel
theorem dL_areAll_601 : decode cL_areAll 601 = .ok (.iand, 1) := by decide +kernel
theorem dL_areAll_602 : decode cL_areAll 602 = .ok (.iconst 1, 1) := by decide +kernel
theorem dL_areAll_603 : decode cL_areAll 603 = .ok (.if_icmp .ne 7, 3) := by decide +kernel
theorem dL_areAll_606 : decode cL_areAll 606 = .ok (.iconst 1, 1) := by decide +kernel
theorem dL_areAll_607 : decode cL_areAll 607 = .ok (.goto 4, 3) := by decide +kernel
theorem dL_areAll_610 : decode cL_areAll 610 = .ok (.iconst 0, 1) := by decide +kernel
theorem dL_areAll_611 : decode cL_areAll 611 = .ok (.if_icmp .ne 170, 3) := by decide +kernel
theorem dL_areAll_614 : decode cL_areAll 614 = .ok (.iload 16, 2) := by decide +kernel
theorem dL_areAll_616 : decode cL_areAll 616 = .ok (.iconst 2, 1) := by decide +kernel
theorem dL_areAll_617 : decode cL_areAll 617 = .ok (.if_icmp .ne 40, 3) := by decide +kernel
theorem dL_areAll_620 : decode cL_areAll 620 = .ok (.aload_n 0, 1) := by decide +kernel
theorem dL_areAll_621 : decode cL_areAll 621 = .ok (.iload 15, 2) := by decide +kernel
theorem dL_areAll_623 : decode cL_areAll 623 = .ok (.iconst 2, 1) := by decide +kernel
theorem dL_areAll_624 : decode cL_areAll 624 = .ok (.invokevirtual 24, 3) := by decide +kernel
theorem dL_areAll_627 : decode cL_areAll 627 = .ok (.iconst 2, 1) := by decide +kernel
theorem dL_areAll_628 : decode cL_areAll 628 = .ok (.aload_n 0, 1) := by decide +kernel
theorem dL_areAll_629 : decode cL_areAll 629 = .ok (.iload 11, 2) := by decide +kernel
theorem dL_areAll_631 : decode cL_areAll 631 = .ok (.iconst 0, 1) := by decide +kernel
theorem dL_areAll_632 : decode cL_areAll 632 = .ok (.invokevirtual 27, 3) := by decide +kernel
theorem dL_areAll_635 : decode cL_areAll 635 = .ok (.imul, 1) := by decide +kernel
theorem dL_areAll_636 : decode cL_areAll 636 = .ok (.iconst 1, 1) := by decide +kernel
theorem dL_areAll_637 : decode cL_areAll 637 = .ok (.iadd, 1) := by decide +kernel
theorem dL_areAll_638 : decode cL_areAll 638 = .ok (.if_icmp .le 143, 3) := by decide +kernel
theorem dL_areAll_641 : decode cL_areAll 641 = .ok (.iload_n 2, 1) := by decide +kernel
theorem dL_areAll_642 : decode cL_areAll 642 = .ok (.iload 15, 2) := by decide +kernel
theorem dL_areAll_644 : decode cL_areAll 644 = .ok (.ishr, 1) := by decide +kernel
theorem dL_areAll_645 : decode cL_areAll 645 = .ok (.iconst 1, 1) := by decide +kernel
theorem dL_areAll_646 : decode cL_areAll 646 = .ok (.iand, 1) := by decide +kernel
theorem dL_areAll_647 : decode cL_areAll 647 = .ok (.ifCond .ne 134, 3) := by decide +kernel
theorem dL_areAll_650 : decode cL_areAll 650 = .ok (.iload 17, 2) := by decide +kernel
theorem dL_areAll_652 : decode cL_areAll 652 = .ok (.bipush (-6), 2) := by decide +kernel
theorem dL_areAll_654 : decode cL_areAll 654 = .ok (.if_icmp .ne 127, 3) := by decide +kernel
theorem dL_areAll_657 : decode cL_areAll 657 = .ok (.iload 16, 2) := by decide +kernel
theorem dL_areAll_659 : decode cL_areAll 659 = .ok (.iconst 3, 1) := by decide +kernel
theorem dL_areAll_660 : decode cL_areAll 660 = .ok (.if_icmp .ne 30, 3) := by decide +kernel
theorem dL_areAll_663 : decode cL_areAll 663 = .ok (.iload_n 2, 1) := by decide +kernel
theorem dL_areAll_664 : decode cL_areAll 664 = .ok (.iload 15, 2) := by decide +kernel
theorem dL_areAll_666 : decode cL_areAll 666 = .ok (.ishr, 1) := by decide +kernel
theorem dL_areAll_667 : decode cL_areAll 667 = .ok (.iconst 1, 1) := by decide +kernel
theorem dL_areAll_668 : decode cL_areAll 668 = .ok (.iand, 1) := by decide +kernel
theorem dL_areAll_669 : decode cL_areAll 669 = .ok (.iconst 1, 1) := by decide +kernel
theorem dL_areAll_670 : decode cL_areAll 670 = .ok (.if_icmp .ne 111, 3) := by decide +kernel
theorem dL_areAll_673 : decode cL_areAll 673 = .ok (.aload_n 0, 1) := by decide +kernel
theorem dL_areAll_674 : decode cL_areAll 674 = .ok (.iload 15, 2) := by decide +kernel
theorem dL_areAll_676 : decode cL_areAll 676 = .ok (.iconst 2, 1) := by decide +kernel
theorem dL_areAll_677 : decode cL_areAll 677 = .ok (.invokevirtual 24, 3) := by decide +kernel
theorem dL_areAll_680 : decode cL_areAll 680 = .ok (.ifCond .le 101, 3) := by decide +kernel
theorem dL_areAll_683 : decode cL_areAll 683 = .ok (.iload 17, 2) := by decide +kernel
theorem dL_areAll_685 : decode cL_areAll 685 = .ok (.bipush (-6), 2) := by decide +kernel
theorem dL_areAll_687 : decode cL_areAll 687 = .ok (.if_icmp .ne 94, 3) := by decide +kernel
theorem dL_areAll_690 : decode cL_areAll 690 = .ok (.iload 17, 2) := by decide +kernel
theorem dL_areAll_692 : decode cL_areAll 692 = .ok (.bipush (-6), 2) := by decide +kernel
theorem dL_areAll_694 : decode cL_areAll 694 = .ok (.if_icmp .eq 15, 3) := by decide +kernel
theorem dL_areAll_697 : decode cL_areAll 697 = .ok (.iload 17, 2) := by decide +kernel
theorem dL_areAll_699 : decode cL_areAll 699 = .ok (.ifCond .le 82, 3) := by decide +kernel
theorem dL_areAll_702 : decode cL_areAll 702 = .ok (.iload 17, 2) := by decide +kernel
theorem dL_areAll_704 : decode cL_areAll 704 = .ok (.bipush 30, 2) := by decide +kernel
theorem dL_areAll_706 : decode cL_areAll 706 = .ok (.if_icmp .gt 75, 3) := by decide +kernel
theorem dL_areAll_709 : decode cL_areAll 709 = .ok (.iload 17, 2) := by decide +kernel
theorem dL_areAll_711 : decode cL_areAll 711 = .ok (.bipush (-6), 2) := by decide +kernel
theorem dL_areAll_713 : decode cL_areAll 713 = .ok (.if_icmp .eq 7, 3) := by decide +kernel
theorem dL_areAll_716 : decode cL_areAll 716 = .ok (.iconst 1, 1) := by decide +kernel
theorem dL_areAll_717 : decode cL_areAll 717 = .ok (.goto 4, 3) := by decide +kernel
theorem dL_areAll_720 : decode cL_areAll 720 = .ok (.iconst 0, 1) := by decide +kernel
theorem dL_areAll_721 : decode cL_areAll 721 = .ok (.iload 13, 2) := by decide +kernel
theorem dL_areAll_723 : decode cL_areAll 723 = .ok (.iload 15, 2) := by decide +kernel
theorem dL_areAll_725 : decode cL_areAll 725 = .ok (.ishr, 1) := by decide +kernel
theorem dL_areAll_726 : decode cL_areAll 726 = .ok (.iconst 1, 1) := by decide +kernel
theorem dL_areAll_727 : decode cL_areAll 727 = .ok (.iand, 1) := by decide +kernel
theorem dL_areAll_728 : decode cL_areAll 728 = .ok (.iconst 1, 1) := by decide +kernel
theorem dL_areAll_729 : decode cL_areAll 729 = .ok (.if_icmp .ne 7, 3) := by decide +kernel
theorem dL_areAll_732 : decode cL_areAll 732 = .ok (.iconst 1, 1) := by decide +kernel
theorem dL_areAll_733 : decode cL_areAll 733 = .ok (.goto 4, 3) := by decide +kernel
theorem dL_areAll_736 : decode cL_areAll 736 = .ok (.iconst 0, 1) := by decide +kernel
theorem dL_areAll_737 : decode cL_areAll 737 = .ok (.if_icmp .ne 44, 3) := by decide +kernel
theorem dL_areAll_740 : decode cL_areAll 740 = .ok (.aload_n 0, 1) := by decide +kernel
theorem dL_areAll_741 : decode cL_areAll 741 = .ok (.iload 15, 2) := by decide +kernel
theorem dL_areAll_743 : decode cL_areAll 743 = .ok (.bipush 6, 2) := by decide +kernel
theorem dL_areAll_745 : decode cL_areAll 745 = .ok (.invokevirtual 24, 3) := by decide +kernel
theorem dL_areAll_748 : decode cL_areAll 748 = .ok (.iload 11, 2) := by decide +kernel
theorem dL_areAll_750 : decode cL_areAll 750 = .ok (.ishr, 1) := by decide +kernel
theorem dL_areAll_751 : decode cL_areAll 751 = .ok (.iconst 1, 1) := by decide +kernel
theorem dL_areAll_752 : decode cL_areAll 752 = .ok (.iand, 1) := by decide +kernel
theorem dL_areAll_753 : decode cL_areAll 753 = .ok (.iconst 1, 1) := by decide +kernel
theorem dL_areAll_754 : decode cL_areAll 754 = .ok (.if_icmp .ne 7, 3) := by decide +kernel
theorem dL_areAll_757 : decode cL_areAll 757 = .ok (.iconst 1, 1) := by decide +kernel
theorem dL_areAll_758 : decode cL_areAll 758 = .ok (.goto 4, 3) := by decide +kernel
theorem dL_areAll_761 : decode cL_areAll 761 = .ok (.iconst 0, 1) := by decide +kernel
theorem dL_areAll_762 : decode cL_areAll 762 = .ok (.iload 17, 2) := by decide +kernel
theorem dL_areAll_764 : decode cL_areAll 764 = .ok (.bipush (-6), 2) := by decide +kernel
theorem dL_areAll_766 : decode cL_areAll 766 = .ok (.if_icmp .eq 7, 3) := by decide +kernel
theorem dL_areAll_769 : decode cL_areAll 769 = .ok (.iconst 1, 1) := by decide +kernel
theorem dL_areAll_770 : decode cL_areAll 770 = .ok (.goto 4, 3) := by decide +kernel
theorem dL_areAll_773 : decode cL_areAll 773 = .ok (.iconst 0, 1) := by decide +kernel
theorem dL_areAll_774 : decode cL_areAll 774 = .ok (.if_icmp .ne 7, 3) := by decide +kernel
theorem dL_areAll_777 : decode cL_areAll 777 = .ok (.iconst 1, 1) := by decide +kernel
theorem dL_areAll_778 : decode cL_areAll 778 = .ok (.goto 4, 3) := by decide +kernel
theorem dL_areAll_781 : decode cL_areAll 781 = .ok (.iconst 0, 1) := by decide +kernel
theorem dL_areAll_782 : decode cL_areAll 782 = .ok (.istore 6, 2) := by decide +kernel
theorem dL_areAll_784 : decode cL_areAll 784 = .ok (.iinc 15 1, 3) := by decide +kernel
theorem dL_areAll_787 : decode cL_areAll 787 = .ok (.goto (-274), 3) := by decide +kernel
theorem dL_areAll_790 : decode cL_areAll 790 = .ok (.iinc 11 1, 3) := by decide +kernel
theorem dL_areAll_793 : decode cL_areAll 793 = .ok (.goto (-505), 3) := by decide +kernel
theorem dL_areAll_796 : decode cL_areAll 796 = .ok (.iload 6, 2) := by decide +kernel
theorem dL_areAll_798 : decode cL_areAll 798 = .ok (.ifCond .eq 107, 3) := by decide +kernel
theorem dL_areAll_801 : decode cL_areAll 801 = .ok (.iload_n 1, 1) := by decide +kernel
theorem dL_areAll_802 : decode cL_areAll 802 = .ok (.aload_n 0, 1) := by decide +kernel
theorem dL_areAll_803 : decode cL_areAll 803 = .ok (.iconst 5, 1) := by decide +kernel
theorem dL_areAll_804 : decode cL_areAll 804 = .ok (.invokevirtual 14, 3) := by decide +kernel
theorem dL_areAll_807 : decode cL_areAll 807 = .ok (.if_icmp .ne 98, 3) := by decide +kernel
theorem dL_areAll_810 : decode cL_areAll 810 = .ok (.aload_n 0, 1) := by decide +kernel
theorem dL_areAll_811 : decode cL_areAll 811 = .ok (.bipush 6, 2) := by decide +kernel
theorem dL_areAll_813 : decode cL_areAll 813 = .ok (.invokevirtual 14, 3) := by decide +kernel
theorem dL_areAll_816 : decode cL_areAll 816 = .ok (.iload_n 1, 1) := by decide +kernel
theorem dL_areAll_817 : decode cL_areAll 817 = .ok (.aload_n 0, 1) := by decide +kernel
theorem dL_areAll_818 : decode cL_areAll 818 = .ok (.bipush 7, 2) := by decide +kernel
theorem dL_areAll_820 : decode cL_areAll 820 = .ok (.invokevirtual 14, 3) := by decide +kernel
theorem dL_areAll_823 : decode cL_areAll 823 = .ok (.iadd, 1) := by decide +kernel
theorem dL_areAll_824 : decode cL_areAll 824 = .ok (.aload_n 0, 1) := by decide +kernel
theorem dL_areAll_825 : decode cL_areAll 825 = .ok (.bipush 8, 2) := by decide +kernel
theorem dL_areAll_827 : decode cL_areAll 827 = .ok (.invokevirtual 14, 3) := by decide +kernel
theorem dL_areAll_830 : decode cL_areAll 830 = .ok (.iadd, 1) := by decide +kernel
theorem dL_areAll_831 : decode cL_areAll 831 = .ok (.if_icmp .ne 74, 3) := by decide +kernel
theorem dL_areAll_834 : decode cL_areAll 834 = .ok (.iload_n 2, 1) := by decide +kernel
theorem dL_areAll_835 : decode cL_areAll 835 = .ok (.aload_n 0, 1) := by decide +kernel
theorem dL_areAll_836 : decode cL_areAll 836 = .ok (.bipush 9, 2) := by decide +kernel
theorem dL_areAll_838 : decode cL_areAll 838 = .ok (.invokevirtual 14, 3) := by decide +kernel
theorem dL_areAll_841 : decode cL_areAll 841 = .ok (.if_icmp .ne 64, 3) := by decide +kernel
theorem dL_areAll_844 : decode cL_areAll 844 = .ok (.iload_n 3, 1) := by decide +kernel
theorem dL_areAll_845 : decode cL_areAll 845 = .ok (.aload_n 0, 1) := by decide +kernel
theorem dL_areAll_846 : decode cL_areAll 846 = .ok (.bipush 10, 2) := by decide +kernel
theorem dL_areAll_848 : decode cL_areAll 848 = .ok (.invokevirtual 14, 3) := by decide +kernel
theorem dL_areAll_851 : decode cL_areAll 851 = .ok (.if_icmp .ne 54, 3) := by decide +kernel
theorem dL_areAll_854 : decode cL_areAll 854 = .ok (.iload 5, 2) := by decide +kernel
theorem dL_areAll_856 : decode cL_areAll 856 = .ok (.aload_n 0, 1) := by decide +kernel
theorem dL_areAll_857 : decode cL_areAll 857 = .ok (.bipush 11, 2) := by decide +kernel
theorem dL_areAll_859 : decode cL_areAll 859 = .ok (.invokevirtual 14, 3) := by decide +kernel
theorem dL_areAll_862 : decode cL_areAll 862 = .ok (.if_icmp .ne 43, 3) := by decide +kernel
theorem dL_areAll_865 : decode cL_areAll 865 = .ok (.iload 10, 2) := by decide +kernel
theorem dL_areAll_867 : decode cL_areAll 867 = .ok (.iload 5, 2) := by decide +kernel
theorem dL_areAll_869 : decode cL_areAll 869 = .ok (.if_icmp .ne 36, 3) := by decide +kernel
theorem dL_areAll_872 : decode cL_areAll 872 = .ok (.iload 7, 2) := by decide +kernel
theorem dL_areAll_874 : decode cL_areAll 874 = .ok (.aload_n 0, 1) := by decide +kernel
theorem dL_areAll_875 : decode cL_areAll 875 = .ok (.bipush 12, 2) := by decide +kernel
theorem dL_areAll_877 : decode cL_areAll 877 = .ok (.invokevirtual 14, 3) := by decide +kernel
theorem dL_areAll_880 : decode cL_areAll 880 = .ok (.if_icmp .ne 25, 3) := by decide +kernel
theorem dL_areAll_883 : decode cL_areAll 883 = .ok (.iload 8, 2) := by decide +kernel
theorem dL_areAll_885 : decode cL_areAll 885 = .ok (.aload_n 0, 1) := by decide +kernel
theorem dL_areAll_886 : decode cL_areAll 886 = .ok (.bipush 13, 2) := by decide +kernel
theorem dL_areAll_888 : decode cL_areAll 888 = .ok (.invokevirtual 14, 3) := by decide +kernel
theorem dL_areAll_891 : decode cL_areAll 891 = .ok (.if_icmp .ne 14, 3) := by decide +kernel
theorem dL_areAll_894 : decode cL_areAll 894 = .ok (.iload 9, 2) := by decide +kernel
theorem dL_areAll_896 : decode cL_areAll 896 = .ok (.iload 4, 2) := by decide +kernel
theorem dL_areAll_898 : decode cL_areAll 898 = .ok (.if_icmp .ne 7, 3) := by decide +kernel
theorem dL_areAll_901 : decode cL_areAll 901 = .ok (.iconst 1, 1) := by decide +kernel
theorem dL_areAll_902 : decode cL_areAll 902 = .ok (.goto 4, 3) := by decide +kernel
theorem dL_areAll_905 : decode cL_areAll 905 = .ok (.iconst 0, 1) := by decide +kernel
theorem dL_areAll_906 : decode cL_areAll 906 = .ok (.ireturn, 1) := by decide +kernel
