set_option maxRecDepth 20000 in
theorem ggL_act_X4_cost : GoodIn wsL_act wsX4_cost := goodIn_r _ [149, 10, 150, 151, 8, 152, 133, 134, 135, 153, 154, 155, 31, 156, 157, 158, 96, 159, 160, 161, 162, 163, 164, 165, 74, 166, 167, 168, 169, 170, 139, 140, 141, 79, 102, 103, 37, 38, 39, 40, 41, 42, 43, 108, 109, 110, 111, 72, 98, 99, 100, 101, 78, 171, 172, 173, 174, 175, 176, 177, 70, 178, 179, 180, 181, 182, 183, 184, 185, 253, 254, 255, 256, 257, 258, 259, 260, 261, 262, 263, 264, 265, 266, 267, 268, 269, 270, 271] (by decide +kernel) (by decide +kernel)
set_option maxRecDepth 20000 in
theorem gL_act_X4_cost : GoodIn wsL_act (wsV RL 72 RX4 yX4_cost wsX4_cost) := goodIn_app (goodIn_of _ (by decide +kernel)) ggL_act_X4_cost
set_option maxRecDepth 20000 in
theorem ggL_act_X4_walker : GoodIn wsL_act wsX4_walker := goodIn_r _ [189, 10, 190, 19, 20, 191, 150, 151, 8, 152, 192, 34, 35, 31, 36, 37, 38, 39, 40, 41, 42, 43, 193, 194, 195, 196, 162, 163, 164, 165, 74, 166, 167, 168, 169, 170, 139, 140, 141, 79, 102, 103, 108, 109, 110, 111, 72, 98, 99, 100, 101, 78, 171, 172, 173, 253, 254, 255, 256, 257, 258, 259, 260, 261, 262, 263, 264, 265, 266, 267, 268, 269, 270, 271] (by decide +kernel) (by decide +kernel)
set_option maxRecDepth 20000 in
theorem gL_act_X4_walker : GoodIn wsL_act (wsV RL 27 RX4 yX4_walker wsX4_walker) := goodIn_app (goodIn_of _ (by decide +kernel)) ggL_act_X4_walker
set_option maxRecDepth 20000 in
theorem ggL_act_X4_walk : GoodIn wsL_act wsX4_walk := goodIn_r _ [200, 23, 10, 150, 151, 8, 152, 133, 134, 135, 55, 56, 57, 58, 59, 60, 61, 62, 63, 64, 65, 66, 67, 68, 31, 69, 70, 71, 72, 73, 74, 75, 76, 77, 41, 78, 79, 80, 81, 82, 83, 84, 85, 201, 183, 184, 185, 157, 158, 96, 159, 160, 161, 162, 163, 164, 165, 166, 167, 168, 169, 170, 139, 140, 141, 102, 103, 37, 38, 39, 40, 42, 43, 108, 109, 110, 111, 98, 99, 100, 101, 171, 172, 173, 202, 203, 204, 205, 206, 174, 175, 176, 177, 253, 254, 255, 256, 274, 275, 257, 258, 259, 260, 261, 262, 263, 264, 265, 266, 267, 268, 269, 270, 271] (by decide +kernel) (by decide +kernel)
set_option maxRecDepth 20000 in
theorem gL_act_X4_walk : GoodIn wsL_act (wsV RL 62 RX4 yX4_walk wsX4_walk) := goodIn_app (goodIn_of _ (by decide +kernel)) ggL_act_X4_walk
set_option maxRecDepth 20000 in
theorem ggL_act_X4_count : GoodIn wsL_act wsX4_count := goodIn_r _ [9, 10, 11, 12, 13, 14, 15, 16, 17, 18, 19, 20, 21, 22, 23, 24, 25, 26, 8, 27, 28, 29, 30, 31, 32, 33, 34, 35, 36, 37, 38, 39, 40, 41, 42, 43, 44, 45, 46, 47, 48, 49, 50, 253, 254, 255, 256, 257, 258, 259, 260, 261, 262, 263, 264, 265, 266, 267, 268, 269, 270, 271, 272, 273, 274, 275] (by decide +kernel) (by decide +kernel)
set_option maxRecDepth 20000 in
theorem gL_act_X4_count : GoodIn wsL_act (wsV RL 14 RX4 yX4_count wsX4_count) := goodIn_app (goodIn_of _ (by decide +kernel)) ggL_act_X4_count
set_option maxRecDepth 20000 in
theorem ggL_act_X4_puddle : GoodIn wsL_act wsX4_puddle := goodIn_r _ [130, 10, 131, 13, 132, 133, 134, 8, 135, 136, 109, 110, 31, 111, 72, 137, 99, 100, 101, 78, 102, 103, 138, 139, 140, 141, 79, 142, 143, 144, 145, 37, 38, 39, 40, 41, 42, 43, 253, 254, 255, 256, 257, 258, 259, 260, 261, 262, 263, 264, 265, 266, 267, 268, 269, 270, 271] (by decide +kernel) (by decide +kernel)
set_option maxRecDepth 20000 in
theorem gL_act_X4_puddle : GoodIn wsL_act (wsV RL 24 RX4 yX4_puddle wsX4_puddle) := goodIn_app (goodIn_of _ (by decide +kernel)) ggL_act_X4_puddle
set_option maxRecDepth 20000 in
theorem ggL_act_X4_brim : GoodIn wsL_act wsX4_brim := goodIn_r _ [210, 23, 10, 131, 133, 134, 8, 135, 55, 56, 57, 58, 59, 60, 61, 62, 63, 64, 65, 66, 67, 68, 31, 69, 70, 71, 72, 73, 74, 75, 76, 77, 41, 78, 79, 80, 81, 82, 83, 84, 85, 211, 212, 213, 214, 253, 254, 255, 256, 257, 258, 259, 260, 261, 262, 263, 264, 265, 266, 267, 268, 269, 270, 271, 274, 275] (by decide +kernel) (by decide +kernel)
set_option maxRecDepth 20000 in
theorem gL_act_X4_brim : GoodIn wsL_act (wsV RL 50 RX4 yX4_brim wsX4_brim) := goodIn_app (goodIn_of _ (by decide +kernel)) ggL_act_X4_brim
set_option maxRecDepth 20000 in
theorem ggL_act_X4_drain : GoodIn wsL_act wsX4_drain := goodIn_r _ [218, 10, 23, 13, 133, 134, 8, 135, 138, 139, 140, 31, 141, 79, 102, 103, 55, 56, 57, 58, 59, 60, 61, 62, 63, 64, 65, 66, 67, 68, 69, 70, 71, 72, 73, 74, 75, 76, 77, 41, 78, 80, 81, 82, 83, 84, 85, 211, 212, 213, 214, 219, 220, 221, 222, 253, 254, 255, 256, 257, 258, 259, 260, 261, 262, 263, 264, 265, 266, 267, 268, 269, 270, 271, 274, 275] (by decide +kernel) (by decide +kernel)
set_option maxRecDepth 20000 in
theorem gL_act_X4_drain : GoodIn wsL_act (wsV RL 53 RX4 yX4_drain wsX4_drain) := goodIn_app (goodIn_of _ (by decide +kernel)) ggL_act_X4_drain
set_option maxRecDepth 20000 in
theorem ggL_act_X4_shoes : GoodIn wsL_act wsX4_shoes := goodIn_r _ [226, 23, 10, 190, 150, 151, 8, 152, 55, 56, 57, 58, 59, 60, 61, 62, 63, 64, 65, 66, 67, 68, 31, 69, 70, 71, 72, 73, 74, 75, 76, 77, 41, 78, 79, 80, 81, 82, 83, 84, 85, 253, 254, 255, 256, 257, 258, 259, 260, 261, 262, 263, 264, 265, 266, 267, 268, 269, 270, 271, 274, 275] (by decide +kernel) (by decide +kernel)
set_option maxRecDepth 20000 in
theorem gL_act_X4_shoes : GoodIn wsL_act (wsV RL 59 RX4 yX4_shoes wsX4_shoes) := goodIn_app (goodIn_of _ (by decide +kernel)) ggL_act_X4_shoes
set_option maxRecDepth 20000 in
theorem ggL_act_X4_permit : GoodIn wsL_act wsX4_permit := goodIn_r _ [230, 10, 23, 231, 11, 150, 151, 8, 152, 133, 134, 135, 138, 139, 140, 31, 141, 79, 102, 103, 55, 56, 57, 58, 59, 60, 61, 62, 63, 64, 65, 66, 67, 68, 69, 70, 71, 72, 73, 74, 75, 76, 77, 41, 78, 80, 81, 82, 83, 84, 85, 232, 42, 43, 192, 34, 35, 36, 37, 38, 39, 40, 233, 45, 46, 47, 48, 49, 50, 253, 254, 255, 256, 257, 258, 259, 260, 261, 262, 263, 264, 265, 266, 267, 268, 269, 270, 271, 274, 275] (by decide +kernel) (by decide +kernel)
set_option maxRecDepth 20000 in
theorem gL_act_X4_permit : GoodIn wsL_act (wsV RL 56 RX4 yX4_permit wsX4_permit) := goodIn_app (goodIn_of _ (by decide +kernel)) ggL_act_X4_permit
set_option maxRecDepth 20000 in
theorem ggL_act_L_size : GoodIn wsL_act wsL_size := goodIn_r _ [126] (by decide +kernel) (by decide +kernel)
set_option maxRecDepth 20000 in
theorem gL_act_L_size : GoodIn wsL_act (va_wsS RL 30 yL_size wsL_size) := goodIn_app (goodIn_of _ (by decide +kernel)) ggL_act_L_size
set_option maxRecDepth 20000 in
theorem ggL_act_X4_holds : GoodIn wsL_act wsX4_holds := goodIn_r _ [237, 10, 231, 150, 151, 8, 152, 133, 134, 135, 232, 42, 43, 253, 254, 255, 256, 257, 258, 259, 260, 261, 262, 263, 264, 265, 266, 267, 268, 269, 270, 271] (by decide +kernel) (by decide +kernel)
set_option maxRecDepth 20000 in
theorem gL_act_X4_holds : GoodIn wsL_act (wsV RL 20 RX4 yX4_holds wsX4_holds) := goodIn_app (goodIn_of _ (by decide +kernel)) ggL_act_X4_holds
set_option maxRecDepth 20000 in
theorem ggL_act_X4_why : GoodIn wsL_act wsX4_why := goodIn_r _ [241, 10, 190, 150, 151, 8, 152, 133, 134, 135, 242, 167, 168, 31, 169, 170, 139, 140, 141, 79, 102, 103, 37, 38, 39, 40, 41, 42, 43, 108, 109, 110, 111, 72, 98, 99, 100, 101, 78, 171, 172, 173, 253, 254, 255, 256, 257, 258, 259, 260, 261, 262, 263, 264, 265, 266, 267, 268, 269, 270, 271] (by decide +kernel) (by decide +kernel)
set_option maxRecDepth 20000 in
theorem gL_act_X4_why : GoodIn wsL_act (wsV RL 44 RX4 yX4_why wsX4_why) := goodIn_app (goodIn_of _ (by decide +kernel)) ggL_act_X4_why
set_option maxRecDepth 20000 in
theorem ggL_act_X4_pay : GoodIn wsL_act wsX4_pay := goodIn_r _ [246, 23, 10, 19, 20, 150, 151, 8, 152, 55, 56, 57, 58, 59, 60, 61, 62, 63, 64, 65, 66, 67, 68, 31, 69, 70, 71, 72, 73, 74, 75, 76, 77, 41, 78, 79, 80, 81, 82, 83, 84, 85, 253, 254, 255, 256, 257, 258, 259, 260, 261, 262, 263, 264, 265, 266, 267, 268, 269, 270, 271, 274, 275] (by decide +kernel) (by decide +kernel)
set_option maxRecDepth 20000 in
theorem gL_act_X4_pay : GoodIn wsL_act (wsV RL 66 RX4 yX4_pay wsX4_pay) := goodIn_app (goodIn_of _ (by decide +kernel)) ggL_act_X4_pay
set_option maxRecDepth 20000 in
theorem ggL_act_X4_set : GoodIn wsL_act wsX4_set := goodIn_r _ [250, 251, 252, 23, 10, 11, 55, 56, 57, 58, 59, 60, 61, 62, 63, 64, 65, 66, 67, 68, 31, 69, 70, 71, 72, 73, 74, 75, 76, 77, 41, 78, 79, 80, 81, 82, 83, 84, 8, 85, 253, 254, 255, 256, 257, 258, 259, 260, 261, 262, 263, 264, 265, 266, 267, 268, 269, 270, 271, 274, 275] (by decide +kernel) (by decide +kernel)
set_option maxRecDepth 20000 in
theorem gL_act_X4_set : GoodIn wsL_act (wsV RL 47 RX4 yX4_set wsX4_set) := goodIn_app (goodIn_of _ (by decide +kernel)) ggL_act_X4_set
theorem dL_act_0 : decode cL_act 0 = .ok (.iload_n 1, 1) := by decide +kernel
theorem dL_act_1 : decode cL_act 1 = .ok (.bipush 16, 2) := by decide +kernel
theorem dL_act_3 : decode cL_act 3 = .ok (.irem, 1) := by decide +kernel
theorem dL_act_4 : decode cL_act 4 = .ok (.istore_n 2, 1) := by decide +kernel
theorem dL_act_5 : decode cL_act 5 = .ok (.iload_n 1, 1) := by decide +kernel
theorem dL_act_6 : decode cL_act 6 = .ok (.bipush 16, 2) := by decide +kernel
theorem dL_act_8 : decode cL_act 8 = .ok (.idiv, 1) := by decide +kernel
theorem dL_act_9 : decode cL_act 9 = .ok (.istore_n 3, 1) := by decide +kernel
theorem dL_act_10 : decode cL_act 10 = .ok (.iload_n 3, 1) := by decide +kernel
theorem dL_act_11 : decode cL_act 11 = .ok (.bipush 12, 2) := by decide +kernel
theorem dL_act_13 : decode cL_act 13 = .ok (.irem, 1) := by decide +kernel
theorem dL_act_14 : decode cL_act 14 = .ok (.istore 4, 2) := by decide +kernel
theorem dL_act_16 : decode cL_act 16 = .ok (.iload_n 3, 1) := by decide +kernel
theorem dL_act_17 : decode cL_act 17 = .ok (.bipush 12, 2) := by decide +kernel
theorem dL_act_19 : decode cL_act 19 = .ok (.idiv, 1) := by decide +kernel
theorem dL_act_20 : decode cL_act 20 = .ok (.bipush 6, 2) := by decide +kernel
theorem dL_act_22 : decode cL_act 22 = .ok (.irem, 1) := by decide +kernel
theorem dL_act_23 : decode cL_act 23 = .ok (.istore 5, 2) := by decide +kernel
theorem dL_act_25 : decode cL_act 25 = .ok (.iload_n 2, 1) := by decide +kernel
theorem dL_act_26 : decode cL_act 26 = .ok (.bipush 7, 2) := by decide +kernel
theorem dL_act_28 : decode cL_act 28 = .ok (.if_icmp .ge 64, 3) := by decide +kernel
theorem dL_act_31 : decode cL_act 31 = .ok (.aload_n 0, 1) := by decide +kernel
theorem dL_act_32 : decode cL_act 32 = .ok (.iload_n 3, 1) := by decide +kernel
theorem dL_act_33 : decode cL_act 33 = .ok (.bipush 8, 2) := by decide +kernel
theorem dL_act_35 : decode cL_act 35 = .ok (.irem, 1) := by decide +kernel
theorem dL_act_36 : decode cL_act 36 = .ok (.iconst 4, 1) := by decide +kernel
theorem dL_act_37 : decode cL_act 37 = .ok (.if_icmp .ge 15, 3) := by decide +kernel
theorem dL_act_40 : decode cL_act 40 = .ok (.iconst 1, 1) := by decide +kernel
theorem dL_act_41 : decode cL_act 41 = .ok (.iload_n 3, 1) := by decide +kernel
theorem dL_act_42 : decode cL_act 42 = .ok (.bipush 8, 2) := by decide +kernel
theorem dL_act_44 : decode cL_act 44 = .ok (.idiv, 1) := by decide +kernel
theorem dL_act_45 : decode cL_act 45 = .ok (.bipush 9, 2) := by decide +kernel
theorem dL_act_47 : decode cL_act 47 = .ok (.irem, 1) := by decide +kernel
theorem dL_act_48 : decode cL_act 48 = .ok (.iadd, 1) := by decide +kernel
theorem dL_act_49 : decode cL_act 49 = .ok (.goto 30, 3) := by decide +kernel
theorem dL_act_52 : decode cL_act 52 = .ok (.iload_n 3, 1) := by decide +kernel
theorem dL_act_53 : decode cL_act 53 = .ok (.bipush 8, 2) := by decide +kernel
theorem dL_act_55 : decode cL_act 55 = .ok (.irem, 1) := by decide +kernel
theorem dL_act_56 : decode cL_act 56 = .ok (.iconst 4, 1) := by decide +kernel
theorem dL_act_57 : decode cL_act 57 = .ok (.if_icmp .ne 7, 3) := by decide +kernel
theorem dL_act_60 : decode cL_act 60 = .ok (.iconst 0, 1) := by decide +kernel
theorem dL_act_61 : decode cL_act 61 = .ok (.goto 18, 3) := by decide +kernel
theorem dL_act_64 : decode cL_act 64 = .ok (.iload_n 3, 1) := by decide +kernel
theorem dL_act_65 : decode cL_act 65 = .ok (.bipush 8, 2) := by decide +kernel
theorem dL_act_67 : decode cL_act 67 = .ok (.irem, 1) := by decide +kernel
theorem dL_act_68 : decode cL_act 68 = .ok (.iconst 5, 1) := by decide +kernel
theorem dL_act_69 : decode cL_act 69 = .ok (.if_icmp .ne 8, 3) := by decide +kernel
theorem dL_act_72 : decode cL_act 72 = .ok (.bipush 10, 2) := by decide +kernel
theorem dL_act_74 : decode cL_act 74 = .ok (.goto 5, 3) := by decide +kernel
theorem dL_act_77 : decode cL_act 77 = .ok (.bipush 11, 2) := by decide +kernel
theorem dL_act_79 : decode cL_act 79 = .ok (.invokestatic 100, 3) := by decide +kernel
theorem dL_act_82 : decode cL_act 82 = .ok (.ifCond .eq 7, 3) := by decide +kernel
theorem dL_act_85 : decode cL_act 85 = .ok (.iconst 1, 1) := by decide +kernel
theorem dL_act_86 : decode cL_act 86 = .ok (.goto 5, 3) := by decide +kernel
theorem dL_act_89 : decode cL_act 89 = .ok (.bipush (-9), 2) := by decide +kernel
theorem dL_act_91 : decode cL_act 91 = .ok (.ireturn, 1) := by decide +kernel
theorem dL_act_92 : decode cL_act 92 = .ok (.iload_n 2, 1) := by decide +kernel
theorem dL_act_93 : decode cL_act 93 = .ok (.bipush 10, 2) := by decide +kernel
theorem dL_act_95 : decode cL_act 95 = .ok (.if_icmp .ge 114, 3) := by decide +kernel
theorem dL_act_98 : decode cL_act 98 = .ok (.iload_n 3, 1) := by decide +kernel
theorem dL_act_99 : decode cL_act 99 = .ok (.bipush 72, 2) := by decide +kernel
theorem dL_act_101 : decode cL_act 101 = .ok (.idiv, 1) := by decide +kernel
theorem dL_act_102 : decode cL_act 102 = .ok (.bipush 12, 2) := by decide +kernel
theorem dL_act_104 : decode cL_act 104 = .ok (.irem, 1) := by decide +kernel
theorem dL_act_105 : decode cL_act 105 = .ok (.istore 6, 2) := by decide +kernel
theorem dL_act_107 : decode cL_act 107 = .ok (.aload_n 0, 1) := by decide +kernel
theorem dL_act_108 : decode cL_act 108 = .ok (.iload 5, 2) := by decide +kernel
theorem dL_act_110 : decode cL_act 110 = .ok (.iload 4, 2) := by decide +kernel
theorem dL_act_112 : decode cL_act 112 = .ok (.iload 6, 2) := by decide +kernel
theorem dL_act_114 : decode cL_act 114 = .ok (.iconst 1, 1) := by decide +kernel
theorem dL_act_115 : decode cL_act 115 = .ok (.invokevirtual 72, 3) := by decide +kernel
theorem dL_act_118 : decode cL_act 118 = .ok (.istore 7, 2) := by decide +kernel
theorem dL_act_120 : decode cL_act 120 = .ok (.aload_n 0, 1) := by decide +kernel
theorem dL_act_121 : decode cL_act 121 = .ok (.iload 5, 2) := by decide +kernel
theorem dL_act_123 : decode cL_act 123 = .ok (.iconst 1, 1) := by decide +kernel
theorem dL_act_124 : decode cL_act 124 = .ok (.invokevirtual 27, 3) := by decide +kernel
theorem dL_act_127 : decode cL_act 127 = .ok (.istore 8, 2) := by decide +kernel
theorem dL_act_129 : decode cL_act 129 = .ok (.aload_n 0, 1) := by decide +kernel
theorem dL_act_130 : decode cL_act 130 = .ok (.iload 5, 2) := by decide +kernel
theorem dL_act_132 : decode cL_act 132 = .ok (.iconst 3, 1) := by decide +kernel
theorem dL_act_133 : decode cL_act 133 = .ok (.invokevirtual 27, 3) := by decide +kernel
theorem dL_act_136 : decode cL_act 136 = .ok (.istore 9, 2) := by decide +kernel
theorem dL_act_138 : decode cL_act 138 = .ok (.aload_n 0, 1) := by decide +kernel
theorem dL_act_139 : decode cL_act 139 = .ok (.iload 5, 2) := by decide +kernel
theorem dL_act_141 : decode cL_act 141 = .ok (.iload 4, 2) := by decide +kernel
theorem dL_act_143 : decode cL_act 143 = .ok (.iload 6, 2) := by decide +kernel
theorem dL_act_145 : decode cL_act 145 = .ok (.invokevirtual 62, 3) := by decide +kernel
theorem dL_act_148 : decode cL_act 148 = .ok (.istore 10, 2) := by decide +kernel
theorem dL_act_150 : decode cL_act 150 = .ok (.iload 10, 2) := by decide +kernel
theorem dL_act_152 : decode cL_act 152 = .ok (.ifCond .lt 54, 3) := by decide +kernel
theorem dL_act_155 : decode cL_act 155 = .ok (.iload 10, 2) := by decide +kernel
theorem dL_act_157 : decode cL_act 157 = .ok (.bipush 12, 2) := by decide +kernel
theorem dL_act_159 : decode cL_act 159 = .ok (.if_icmp .gt 47, 3) := by decide +kernel
theorem dL_act_162 : decode cL_act 162 = .ok (.aload_n 0, 1) := by decide +kernel
theorem dL_act_163 : decode cL_act 163 = .ok (.iload 5, 2) := by decide +kernel
theorem dL_act_165 : decode cL_act 165 = .ok (.iconst 1, 1) := by decide +kernel
theorem dL_act_166 : decode cL_act 166 = .ok (.invokevirtual 27, 3) := by decide +kernel
theorem dL_act_169 : decode cL_act 169 = .ok (.iload 8, 2) := by decide +kernel
theorem dL_act_171 : decode cL_act 171 = .ok (.iload 7, 2) := by decide +kernel
theorem dL_act_173 : decode cL_act 173 = .ok (.iadd, 1) := by decide +kernel
theorem dL_act_174 : decode cL_act 174 = .ok (.if_icmp .ne 32, 3) := by decide +kernel
theorem dL_act_177 : decode cL_act 177 = .ok (.aload_n 0, 1) := by decide +kernel
theorem dL_act_178 : decode cL_act 178 = .ok (.iload 5, 2) := by decide +kernel
theorem dL_act_180 : decode cL_act 180 = .ok (.iconst 3, 1) := by decide +kernel
theorem dL_act_181 : decode cL_act 181 = .ok (.invokevirtual 27, 3) := by decide +kernel
theorem dL_act_184 : decode cL_act 184 = .ok (.iload 9, 2) := by decide +kernel
theorem dL_act_186 : decode cL_act 186 = .ok (.iload 10, 2) := by decide +kernel
theorem dL_act_188 : decode cL_act 188 = .ok (.iadd, 1) := by decide +kernel
theorem dL_act_189 : decode cL_act 189 = .ok (.if_icmp .ne 17, 3) := by decide +kernel
theorem dL_act_192 : decode cL_act 192 = .ok (.iload 10, 2) := by decide +kernel
theorem dL_act_194 : decode cL_act 194 = .ok (.ifCond .gt 8, 3) := by decide +kernel
theorem dL_act_197 : decode cL_act 197 = .ok (.iload 7, 2) := by decide +kernel
theorem dL_act_199 : decode cL_act 199 = .ok (.ifCond .ne 7, 3) := by decide +kernel
theorem dL_act_202 : decode cL_act 202 = .ok (.iconst 1, 1) := by decide +kernel
theorem dL_act_203 : decode cL_act 203 = .ok (.goto 5, 3) := by decide +kernel
theorem dL_act_206 : decode cL_act 206 = .ok (.bipush (-9), 2) := by decide +kernel
theorem dL_act_208 : decode cL_act 208 = .ok (.ireturn, 1) := by decide +kernel
theorem dL_act_209 : decode cL_act 209 = .ok (.aload_n 0, 1) := by decide +kernel
theorem dL_act_210 : decode cL_act 210 = .ok (.bipush 10, 2) := by decide +kernel
theorem dL_act_212 : decode cL_act 212 = .ok (.invokevirtual 14, 3) := by decide +kernel
theorem dL_act_215 : decode cL_act 215 = .ok (.iload 4, 2) := by decide +kernel
theorem dL_act_217 : decode cL_act 217 = .ok (.ishr, 1) := by decide +kernel
theorem dL_act_218 : decode cL_act 218 = .ok (.iconst 1, 1) := by decide +kernel
theorem dL_act_219 : decode cL_act 219 = .ok (.iand, 1) := by decide +kernel
theorem dL_act_220 : decode cL_act 220 = .ok (.iconst 1, 1) := by decide +kernel
theorem dL_act_221 : decode cL_act 221 = .ok (.if_icmp .ne 7, 3) := by decide +kernel
theorem dL_act_224 : decode cL_act 224 = .ok (.iconst 1, 1) := by decide +kernel
theorem dL_act_225 : decode cL_act 225 = .ok (.goto 4, 3) := by decide +kernel
theorem dL_act_228 : decode cL_act 228 = .ok (.iconst 0, 1) := by decide +kernel
theorem dL_act_229 : decode cL_act 229 = .ok (.istore 6, 2) := by decide +kernel
theorem dL_act_231 : decode cL_act 231 = .ok (.iload_n 2, 1) := by decide +kernel
theorem dL_act_232 : decode cL_act 232 = .ok (.bipush 10, 2) := by decide +kernel
theorem dL_act_234 : decode cL_act 234 = .ok (.if_icmp .ne 88, 3) := by decide +kernel
theorem dL_act_237 : decode cL_act 237 = .ok (.iconst 1, 1) := by decide +kernel
theorem dL_act_238 : decode cL_act 238 = .ok (.iload_n 3, 1) := by decide +kernel
theorem dL_act_239 : decode cL_act 239 = .ok (.bipush 72, 2) := by decide +kernel
theorem dL_act_241 : decode cL_act 241 = .ok (.idiv, 1) := by decide +kernel
theorem dL_act_242 : decode cL_act 242 = .ok (.bipush 60, 2) := by decide +kernel
theorem dL_act_244 : decode cL_act 244 = .ok (.irem, 1) := by decide +kernel
theorem dL_act_245 : decode cL_act 245 = .ok (.iadd, 1) := by decide +kernel
theorem dL_act_246 : decode cL_act 246 = .ok (.istore 7, 2) := by decide +kernel
theorem dL_act_248 : decode cL_act 248 = .ok (.aload_n 0, 1) := by decide +kernel
theorem dL_act_249 : decode cL_act 249 = .ok (.iload 4, 2) := by decide +kernel
theorem dL_act_251 : decode cL_act 251 = .ok (.iconst 0, 1) := by decide +kernel
theorem dL_act_252 : decode cL_act 252 = .ok (.invokevirtual 24, 3) := by decide +kernel
theorem dL_act_255 : decode cL_act 255 = .ok (.istore 8, 2) := by decide +kernel
theorem dL_act_257 : decode cL_act 257 = .ok (.aload_n 0, 1) := by decide +kernel
theorem dL_act_258 : decode cL_act 258 = .ok (.iload 4, 2) := by decide +kernel
theorem dL_act_260 : decode cL_act 260 = .ok (.iconst 1, 1) := by decide +kernel
theorem dL_act_261 : decode cL_act 261 = .ok (.invokevirtual 24, 3) := by decide +kernel
theorem dL_act_264 : decode cL_act 264 = .ok (.istore 9, 2) := by decide +kernel
theorem dL_act_266 : decode cL_act 266 = .ok (.aload_n 0, 1) := by decide +kernel
theorem dL_act_267 : decode cL_act 267 = .ok (.iload 4, 2) := by decide +kernel
theorem dL_act_269 : decode cL_act 269 = .ok (.iload 7, 2) := by decide +kernel
theorem dL_act_271 : decode cL_act 271 = .ok (.invokevirtual 50, 3) := by decide +kernel
theorem dL_act_274 : decode cL_act 274 = .ok (.iload 8, 2) := by decide +kernel
theorem dL_act_276 : decode cL_act 276 = .ok (.if_icmp .ne 43, 3) := by decide +kernel
theorem dL_act_279 : decode cL_act 279 = .ok (.aload_n 0, 1) := by decide +kernel
theorem dL_act_280 : decode cL_act 280 = .ok (.iload 4, 2) := by decide +kernel
theorem dL_act_282 : decode cL_act 282 = .ok (.iconst 0, 1) := by decide +kernel
theorem dL_act_283 : decode cL_act 283 = .ok (.invokevirtual 24, 3) := by decide +kernel
theorem dL_act_286 : decode cL_act 286 = .ok (.iload 7, 2) := by decide +kernel
theorem dL_act_288 : decode cL_act 288 = .ok (.if_icmp .ne 31, 3) := by decide +kernel
theorem dL_act_291 : decode cL_act 291 = .ok (.aload_n 0, 1) := by decide +kernel
theorem dL_act_292 : decode cL_act 292 = .ok (.iload 4, 2) := by decide +kernel
theorem dL_act_294 : decode cL_act 294 = .ok (.iconst 1, 1) := by decide +kernel
theorem dL_act_295 : decode cL_act 295 = .ok (.invokevirtual 24, 3) := by decide +kernel
theorem dL_act_298 : decode cL_act 298 = .ok (.iload 9, 2) := by decide +kernel
theorem dL_act_300 : decode cL_act 300 = .ok (.iload 7, 2) := by decide +kernel
theorem dL_act_302 : decode cL_act 302 = .ok (.if_icmp .ge 8, 3) := by decide +kernel
theorem dL_act_305 : decode cL_act 305 = .ok (.iload 9, 2) := by decide +kernel
theorem dL_act_307 : decode cL_act 307 = .ok (.goto 5, 3) := by decide +kernel
theorem dL_act_310 : decode cL_act 310 = .ok (.iload 7, 2) := by decide +kernel
theorem dL_act_312 : decode cL_act 312 = .ok (.if_icmp .ne 7, 3) := by decide +kernel
theorem dL_act_315 : decode cL_act 315 = .ok (.iconst 1, 1) := by decide +kernel
theorem dL_act_316 : decode cL_act 316 = .ok (.goto 5, 3) := by decide +kernel
theorem dL_act_319 : decode cL_act 319 = .ok (.bipush (-9), 2) := by decide +kernel
theorem dL_act_321 : decode cL_act 321 = .ok (.ireturn, 1) := by decide +kernel
theorem dL_act_322 : decode cL_act 322 = .ok (.iload_n 2, 1) := by decide +kernel
theorem dL_act_323 : decode cL_act 323 = .ok (.bipush 11, 2) := by decide +kernel
theorem dL_act_325 : decode cL_act 325 = .ok (.if_icmp .ne 75, 3) := by decide +kernel
theorem dL_act_328 : decode cL_act 328 = .ok (.aload_n 0, 1) := by decide +kernel
theorem dL_act_329 : decode cL_act 329 = .ok (.iload 4, 2) := by decide +kernel
theorem dL_act_331 : decode cL_act 331 = .ok (.iconst 1, 1) := by decide +kernel
theorem dL_act_332 : decode cL_act 332 = .ok (.invokevirtual 24, 3) := by decide +kernel
theorem dL_act_335 : decode cL_act 335 = .ok (.istore 7, 2) := by decide +kernel
theorem dL_act_337 : decode cL_act 337 = .ok (.aload_n 0, 1) := by decide +kernel
theorem dL_act_338 : decode cL_act 338 = .ok (.iload 4, 2) := by decide +kernel
theorem dL_act_340 : decode cL_act 340 = .ok (.invokevirtual 53, 3) := by decide +kernel
theorem dL_act_343 : decode cL_act 343 = .ok (.istore 8, 2) := by decide +kernel
theorem dL_act_345 : decode cL_act 345 = .ok (.iload 6, 2) := by decide +kernel
theorem dL_act_347 : decode cL_act 347 = .ok (.ifCond .eq 19, 3) := by decide +kernel
theorem dL_act_350 : decode cL_act 350 = .ok (.iload 8, 2) := by decide +kernel
theorem dL_act_352 : decode cL_act 352 = .ok (.bipush (-5), 2) := by decide +kernel
theorem dL_act_354 : decode cL_act 354 = .ok (.if_icmp .ne 7, 3) := by decide +kernel
theorem dL_act_357 : decode cL_act 357 = .ok (.iconst 0, 1) := by decide +kernel
theorem dL_act_358 : decode cL_act 358 = .ok (.goto 41, 3) := by decide +kernel
theorem dL_act_361 : decode cL_act 361 = .ok (.bipush (-9), 2) := by decide +kernel
theorem dL_act_363 : decode cL_act 363 = .ok (.goto 36, 3) := by decide +kernel
theorem dL_act_366 : decode cL_act 366 = .ok (.iload 8, 2) := by decide +kernel
theorem dL_act_368 : decode cL_act 368 = .ok (.iload 7, 2) := by decide +kernel
theorem dL_act_370 : decode cL_act 370 = .ok (.if_icmp .ne 27, 3) := by decide +kernel
theorem dL_act_373 : decode cL_act 373 = .ok (.aload_n 0, 1) := by decide +kernel
theorem dL_act_374 : decode cL_act 374 = .ok (.iload 4, 2) := by decide +kernel
theorem dL_act_376 : decode cL_act 376 = .ok (.iconst 1, 1) := by decide +kernel
theorem dL_act_377 : decode cL_act 377 = .ok (.invokevirtual 24, 3) := by decide +kernel
theorem dL_act_380 : decode cL_act 380 = .ok (.ifCond .ne 17, 3) := by decide +kernel
theorem dL_act_383 : decode cL_act 383 = .ok (.aload_n 0, 1) := by decide +kernel
theorem dL_act_384 : decode cL_act 384 = .ok (.iload 4, 2) := by decide +kernel
theorem dL_act_386 : decode cL_act 386 = .ok (.iconst 3, 1) := by decide +kernel
theorem dL_act_387 : decode cL_act 387 = .ok (.invokevirtual 24, 3) := by decide +kernel
theorem dL_act_390 : decode cL_act 390 = .ok (.ifCond .ne 7, 3) := by decide +kernel
theorem dL_act_393 : decode cL_act 393 = .ok (.iconst 1, 1) := by decide +kernel
theorem dL_act_394 : decode cL_act 394 = .ok (.goto 5, 3) := by decide +kernel
theorem dL_act_397 : decode cL_act 397 = .ok (.bipush (-9), 2) := by decide +kernel
theorem dL_act_399 : decode cL_act 399 = .ok (.ireturn, 1) := by decide +kernel
theorem dL_act_400 : decode cL_act 400 = .ok (.iload_n 2, 1) := by decide +kernel
theorem dL_act_401 : decode cL_act 401 = .ok (.bipush 12, 2) := by decide +kernel
theorem dL_act_403 : decode cL_act 403 = .ok (.if_icmp .ne 48, 3) := by decide +kernel
theorem dL_act_406 : decode cL_act 406 = .ok (.aload_n 0, 1) := by decide +kernel
theorem dL_act_407 : decode cL_act 407 = .ok (.iload 5, 2) := by decide +kernel
theorem dL_act_409 : decode cL_act 409 = .ok (.iconst 0, 1) := by decide +kernel
theorem dL_act_410 : decode cL_act 410 = .ok (.invokevirtual 27, 3) := by decide +kernel
theorem dL_act_413 : decode cL_act 413 = .ok (.istore 7, 2) := by decide +kernel
theorem dL_act_415 : decode cL_act 415 = .ok (.aload_n 0, 1) := by decide +kernel
theorem dL_act_416 : decode cL_act 416 = .ok (.iload 5, 2) := by decide +kernel
theorem dL_act_418 : decode cL_act 418 = .ok (.iload 4, 2) := by decide +kernel
theorem dL_act_420 : decode cL_act 420 = .ok (.iconst 4, 1) := by decide +kernel
theorem dL_act_421 : decode cL_act 421 = .ok (.irem, 1) := by decide +kernel
theorem dL_act_422 : decode cL_act 422 = .ok (.invokevirtual 59, 3) := by decide +kernel
theorem dL_act_425 : decode cL_act 425 = .ok (.iload 7, 2) := by decide +kernel
theorem dL_act_427 : decode cL_act 427 = .ok (.if_icmp .ne 21, 3) := by decide +kernel
theorem dL_act_430 : decode cL_act 430 = .ok (.aload_n 0, 1) := by decide +kernel
theorem dL_act_431 : decode cL_act 431 = .ok (.iload 5, 2) := by decide +kernel
theorem dL_act_433 : decode cL_act 433 = .ok (.iconst 0, 1) := by decide +kernel
theorem dL_act_434 : decode cL_act 434 = .ok (.invokevirtual 27, 3) := by decide +kernel
theorem dL_act_437 : decode cL_act 437 = .ok (.iload 4, 2) := by decide +kernel
theorem dL_act_439 : decode cL_act 439 = .ok (.iconst 4, 1) := by decide +kernel
theorem dL_act_440 : decode cL_act 440 = .ok (.irem, 1) := by decide +kernel
theorem dL_act_441 : decode cL_act 441 = .ok (.if_icmp .ne 7, 3) := by decide +kernel
theorem dL_act_444 : decode cL_act 444 = .ok (.iconst 1, 1) := by decide +kernel
theorem dL_act_445 : decode cL_act 445 = .ok (.goto 5, 3) := by decide +kernel
theorem dL_act_448 : decode cL_act 448 = .ok (.bipush (-9), 2) := by decide +kernel
theorem dL_act_450 : decode cL_act 450 = .ok (.ireturn, 1) := by decide +kernel
theorem dL_act_451 : decode cL_act 451 = .ok (.iload_n 2, 1) := by decide +kernel
theorem dL_act_452 : decode cL_act 452 = .ok (.bipush 13, 2) := by decide +kernel
theorem dL_act_454 : decode cL_act 454 = .ok (.if_icmp .ne 83, 3) := by decide +kernel
theorem dL_act_457 : decode cL_act 457 = .ok (.aload_n 0, 1) := by decide +kernel
theorem dL_act_458 : decode cL_act 458 = .ok (.iload 5, 2) := by decide +kernel
theorem dL_act_460 : decode cL_act 460 = .ok (.iload 4, 2) := by decide +kernel
theorem dL_act_462 : decode cL_act 462 = .ok (.invokevirtual 56, 3) := by decide +kernel
theorem dL_act_465 : decode cL_act 465 = .ok (.istore 7, 2) := by decide +kernel
theorem dL_act_467 : decode cL_act 467 = .ok (.iload 6, 2) := by decide +kernel
theorem dL_act_469 : decode cL_act 469 = .ok (.ifCond .eq 19, 3) := by decide +kernel
theorem dL_act_472 : decode cL_act 472 = .ok (.iload 7, 2) := by decide +kernel
theorem dL_act_474 : decode cL_act 474 = .ok (.bipush (-5), 2) := by decide +kernel
theorem dL_act_476 : decode cL_act 476 = .ok (.if_icmp .ne 7, 3) := by decide +kernel
theorem dL_act_479 : decode cL_act 479 = .ok (.iconst 0, 1) := by decide +kernel
theorem dL_act_480 : decode cL_act 480 = .ok (.goto 56, 3) := by decide +kernel
theorem dL_act_483 : decode cL_act 483 = .ok (.bipush (-9), 2) := by decide +kernel
theorem dL_act_485 : decode cL_act 485 = .ok (.goto 51, 3) := by decide +kernel
theorem dL_act_488 : decode cL_act 488 = .ok (.iload 7, 2) := by decide +kernel
theorem dL_act_490 : decode cL_act 490 = .ok (.aload_n 0, 1) := by decide +kernel
theorem dL_act_491 : decode cL_act 491 = .ok (.iload 5, 2) := by decide +kernel
theorem dL_act_493 : decode cL_act 493 = .ok (.iconst 4, 1) := by decide +kernel
theorem dL_act_494 : decode cL_act 494 = .ok (.invokevirtual 27, 3) := by decide +kernel
theorem dL_act_497 : decode cL_act 497 = .ok (.invokestatic 30, 3) := by decide +kernel
theorem dL_act_500 : decode cL_act 500 = .ok (.if_icmp .ne 34, 3) := by decide +kernel
theorem dL_act_503 : decode cL_act 503 = .ok (.aload_n 0, 1) := by decide +kernel
theorem dL_act_504 : decode cL_act 504 = .ok (.iload 5, 2) := by decide +kernel
theorem dL_act_506 : decode cL_act 506 = .ok (.iload 4, 2) := by decide +kernel
theorem dL_act_508 : decode cL_act 508 = .ok (.invokevirtual 20, 3) := by decide +kernel
theorem dL_act_511 : decode cL_act 511 = .ok (.aload_n 0, 1) := by decide +kernel
theorem dL_act_512 : decode cL_act 512 = .ok (.iconst 3, 1) := by decide +kernel
theorem dL_act_513 : decode cL_act 513 = .ok (.invokevirtual 14, 3) := by decide +kernel
theorem dL_act_516 : decode cL_act 516 = .ok (.if_icmp .ne 18, 3) := by decide +kernel
theorem dL_act_519 : decode cL_act 519 = .ok (.aload_n 0, 1) := by decide +kernel
theorem dL_act_520 : decode cL_act 520 = .ok (.iload 5, 2) := by decide +kernel
theorem dL_act_522 : decode cL_act 522 = .ok (.iload 4, 2) := by decide +kernel
theorem dL_act_524 : decode cL_act 524 = .ok (.invokevirtual 44, 3) := by decide +kernel
theorem dL_act_527 : decode cL_act 527 = .ok (.ifCond .ne 7, 3) := by decide +kernel
theorem dL_act_530 : decode cL_act 530 = .ok (.iconst 1, 1) := by decide +kernel
theorem dL_act_531 : decode cL_act 531 = .ok (.goto 5, 3) := by decide +kernel
theorem dL_act_534 : decode cL_act 534 = .ok (.bipush (-9), 2) := by decide +kernel
theorem dL_act_536 : decode cL_act 536 = .ok (.ireturn, 1) := by decide +kernel
theorem dL_act_537 : decode cL_act 537 = .ok (.iload_n 2, 1) := by decide +kernel
theorem dL_act_538 : decode cL_act 538 = .ok (.bipush 14, 2) := by decide +kernel
theorem dL_act_540 : decode cL_act 540 = .ok (.if_icmp .ne 64, 3) := by decide +kernel
theorem dL_act_543 : decode cL_act 543 = .ok (.aload_n 0, 1) := by decide +kernel
theorem dL_act_544 : decode cL_act 544 = .ok (.iload 5, 2) := by decide +kernel
theorem dL_act_546 : decode cL_act 546 = .ok (.iconst 1, 1) := by decide +kernel
theorem dL_act_547 : decode cL_act 547 = .ok (.invokevirtual 27, 3) := by decide +kernel
theorem dL_act_550 : decode cL_act 550 = .ok (.istore 7, 2) := by decide +kernel
theorem dL_act_552 : decode cL_act 552 = .ok (.aload_n 0, 1) := by decide +kernel
theorem dL_act_553 : decode cL_act 553 = .ok (.iload 5, 2) := by decide +kernel
theorem dL_act_555 : decode cL_act 555 = .ok (.iconst 2, 1) := by decide +kernel
theorem dL_act_556 : decode cL_act 556 = .ok (.invokevirtual 27, 3) := by decide +kernel
theorem dL_act_559 : decode cL_act 559 = .ok (.istore 8, 2) := by decide +kernel
theorem dL_act_561 : decode cL_act 561 = .ok (.aload_n 0, 1) := by decide +kernel
theorem dL_act_562 : decode cL_act 562 = .ok (.iload 5, 2) := by decide +kernel
theorem dL_act_564 : decode cL_act 564 = .ok (.invokevirtual 66, 3) := by decide +kernel
theorem dL_act_567 : decode cL_act 567 = .ok (.iload 7, 2) := by decide +kernel
theorem dL_act_569 : decode cL_act 569 = .ok (.if_icmp .ne 32, 3) := by decide +kernel
theorem dL_act_572 : decode cL_act 572 = .ok (.aload_n 0, 1) := by decide +kernel
theorem dL_act_573 : decode cL_act 573 = .ok (.iload 5, 2) := by decide +kernel
theorem dL_act_575 : decode cL_act 575 = .ok (.iconst 1, 1) := by decide +kernel
theorem dL_act_576 : decode cL_act 576 = .ok (.invokevirtual 27, 3) := by decide +kernel
theorem dL_act_579 : decode cL_act 579 = .ok (.ifCond .ne 22, 3) := by decide +kernel
theorem dL_act_582 : decode cL_act 582 = .ok (.aload_n 0, 1) := by decide +kernel
theorem dL_act_583 : decode cL_act 583 = .ok (.iload 5, 2) := by decide +kernel
theorem dL_act_585 : decode cL_act 585 = .ok (.iconst 2, 1) := by decide +kernel
theorem dL_act_586 : decode cL_act 586 = .ok (.invokevirtual 27, 3) := by decide +kernel
theorem dL_act_589 : decode cL_act 589 = .ok (.iload 8, 2) := by decide +kernel
theorem dL_act_591 : decode cL_act 591 = .ok (.iload 7, 2) := by decide +kernel
theorem dL_act_593 : decode cL_act 593 = .ok (.iadd, 1) := by decide +kernel
theorem dL_act_594 : decode cL_act 594 = .ok (.if_icmp .ne 7, 3) := by decide +kernel
theorem dL_act_597 : decode cL_act 597 = .ok (.iconst 1, 1) := by decide +kernel
theorem dL_act_598 : decode cL_act 598 = .ok (.goto 5, 3) := by decide +kernel
theorem dL_act_601 : decode cL_act 601 = .ok (.bipush (-9), 2) := by decide +kernel
theorem dL_act_603 : decode cL_act 603 = .ok (.ireturn, 1) := by decide +kernel
theorem dL_act_604 : decode cL_act 604 = .ok (.iload_n 3, 1) := by decide +kernel
theorem dL_act_605 : decode cL_act 605 = .ok (.iconst 4, 1) := by decide +kernel
theorem dL_act_606 : decode cL_act 606 = .ok (.irem, 1) := by decide +kernel
theorem dL_act_607 : decode cL_act 607 = .ok (.istore 7, 2) := by decide +kernel
theorem dL_act_609 : decode cL_act 609 = .ok (.iload 7, 2) := by decide +kernel
theorem dL_act_611 : decode cL_act 611 = .ok (.iconst 2, 1) := by decide +kernel
theorem dL_act_612 : decode cL_act 612 = .ok (.if_icmp .ge 12, 3) := by decide +kernel
theorem dL_act_615 : decode cL_act 615 = .ok (.iload_n 3, 1) := by decide +kernel
theorem dL_act_616 : decode cL_act 616 = .ok (.iconst 4, 1) := by decide +kernel
theorem dL_act_617 : decode cL_act 617 = .ok (.idiv, 1) := by decide +kernel
theorem dL_act_618 : decode cL_act 618 = .ok (.bipush 21, 2) := by decide +kernel
theorem dL_act_620 : decode cL_act 620 = .ok (.irem, 1) := by decide +kernel
theorem dL_act_621 : decode cL_act 621 = .ok (.goto 28, 3) := by decide +kernel
theorem dL_act_624 : decode cL_act 624 = .ok (.iload 7, 2) := by decide +kernel
theorem dL_act_626 : decode cL_act 626 = .ok (.iconst 2, 1) := by decide +kernel
theorem dL_act_627 : decode cL_act 627 = .ok (.if_icmp .ne 14, 3) := by decide +kernel
theorem dL_act_630 : decode cL_act 630 = .ok (.iconst 1, 1) := by decide +kernel
theorem dL_act_631 : decode cL_act 631 = .ok (.iload_n 3, 1) := by decide +kernel
theorem dL_act_632 : decode cL_act 632 = .ok (.iconst 4, 1) := by decide +kernel
theorem dL_act_633 : decode cL_act 633 = .ok (.idiv, 1) := by decide +kernel
theorem dL_act_634 : decode cL_act 634 = .ok (.bipush 50, 2) := by decide +kernel
theorem dL_act_636 : decode cL_act 636 = .ok (.irem, 1) := by decide +kernel
theorem dL_act_637 : decode cL_act 637 = .ok (.iadd, 1) := by decide +kernel
theorem dL_act_638 : decode cL_act 638 = .ok (.goto 11, 3) := by decide +kernel
theorem dL_act_641 : decode cL_act 641 = .ok (.iconst 1, 1) := by decide +kernel
theorem dL_act_642 : decode cL_act 642 = .ok (.iload_n 3, 1) := by decide +kernel
theorem dL_act_643 : decode cL_act 643 = .ok (.iconst 4, 1) := by decide +kernel
theorem dL_act_644 : decode cL_act 644 = .ok (.idiv, 1) := by decide +kernel
theorem dL_act_645 : decode cL_act 645 = .ok (.bipush 30, 2) := by decide +kernel
theorem dL_act_647 : decode cL_act 647 = .ok (.irem, 1) := by decide +kernel
theorem dL_act_648 : decode cL_act 648 = .ok (.iadd, 1) := by decide +kernel
theorem dL_act_649 : decode cL_act 649 = .ok (.istore 8, 2) := by decide +kernel
theorem dL_act_651 : decode cL_act 651 = .ok (.aload_n 0, 1) := by decide +kernel
theorem dL_act_652 : decode cL_act 652 = .ok (.iload 7, 2) := by decide +kernel
theorem dL_act_654 : decode cL_act 654 = .ok (.invokevirtual 14, 3) := by decide +kernel
theorem dL_act_657 : decode cL_act 657 = .ok (.istore 9, 2) := by decide +kernel
theorem dL_act_659 : decode cL_act 659 = .ok (.aload_n 0, 1) := by decide +kernel
theorem dL_act_660 : decode cL_act 660 = .ok (.iload 7, 2) := by decide +kernel
theorem dL_act_662 : decode cL_act 662 = .ok (.iload 8, 2) := by decide +kernel
theorem dL_act_664 : decode cL_act 664 = .ok (.invokevirtual 47, 3) := by decide +kernel
theorem dL_act_667 : decode cL_act 667 = .ok (.iload 9, 2) := by decide +kernel
theorem dL_act_669 : decode cL_act 669 = .ok (.if_icmp .ne 18, 3) := by decide +kernel
theorem dL_act_672 : decode cL_act 672 = .ok (.aload_n 0, 1) := by decide +kernel
theorem dL_act_673 : decode cL_act 673 = .ok (.iload 7, 2) := by decide +kernel
theorem dL_act_675 : decode cL_act 675 = .ok (.invokevirtual 14, 3) := by decide +kernel
theorem dL_act_678 : decode cL_act 678 = .ok (.iload 8, 2) := by decide +kernel
theorem dL_act_680 : decode cL_act 680 = .ok (.if_icmp .ne 7, 3) := by decide +kernel
theorem dL_act_683 : decode cL_act 683 = .ok (.iconst 1, 1) := by decide +kernel
theorem dL_act_684 : decode cL_act 684 = .ok (.goto 5, 3) := by decide +kernel
theorem dL_act_687 : decode cL_act 687 = .ok (.bipush (-9), 2) := by decide +kernel
theorem dL_act_689 : decode cL_act 689 = .ok (.ireturn, 1) := by decide +kernel
