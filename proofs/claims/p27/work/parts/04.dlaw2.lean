set_option maxRecDepth 20000 in
theorem ggL_refusesAny_X4_count : GoodIn wsL_refusesAny wsX4_count := goodIn_r _ [5, 6, 7, 8, 9, 10, 11, 12, 13, 14, 15, 16, 17, 18, 19, 20, 21, 22, 4, 23, 24, 25, 26, 27, 28, 29, 30, 31, 32, 33, 34, 35, 36, 37, 38, 39, 40, 41, 42, 43, 44, 45, 46, 309, 310, 311, 312, 313, 314, 315, 316, 317, 318, 319, 320, 321, 322, 323, 324, 325, 326, 327, 328, 329, 330, 331] (by decide +kernel) (by decide +kernel)
set_option maxRecDepth 20000 in
theorem gL_refusesAny_X4_count : GoodIn wsL_refusesAny (wsV RL 14 RX4 yX4_count wsX4_count) := goodIn_app (goodIn_of _ (by decide +kernel)) ggL_refusesAny_X4_count
set_option maxRecDepth 20000 in
theorem ggL_refusesAny_X4_set : GoodIn wsL_refusesAny wsX4_set := goodIn_r _ [50, 51, 52, 19, 6, 7, 53, 54, 55, 56, 57, 58, 59, 60, 61, 62, 63, 64, 65, 66, 27, 67, 68, 69, 70, 71, 72, 73, 74, 75, 37, 76, 77, 78, 79, 80, 81, 82, 4, 83, 309, 310, 311, 312, 313, 314, 315, 316, 317, 318, 319, 320, 321, 322, 323, 324, 325, 326, 327, 330, 331] (by decide +kernel) (by decide +kernel)
set_option maxRecDepth 20000 in
theorem gL_refusesAny_X4_set : GoodIn wsL_refusesAny (wsV RL 47 RX4 yX4_set wsX4_set) := goodIn_app (goodIn_of _ (by decide +kernel)) ggL_refusesAny_X4_set
set_option maxRecDepth 20000 in
theorem ggL_refusesAny_X4_brim : GoodIn wsL_refusesAny wsX4_brim := goodIn_r _ [87, 19, 6, 88, 89, 90, 4, 91, 53, 54, 55, 56, 57, 58, 59, 60, 61, 62, 63, 64, 65, 66, 27, 67, 68, 69, 70, 71, 72, 73, 74, 75, 37, 76, 77, 78, 79, 80, 81, 82, 83, 92, 93, 94, 95, 309, 310, 311, 312, 313, 314, 315, 316, 317, 318, 319, 320, 321, 322, 323, 324, 325, 326, 327, 330, 331] (by decide +kernel) (by decide +kernel)
set_option maxRecDepth 20000 in
theorem gL_refusesAny_X4_brim : GoodIn wsL_refusesAny (wsV RL 50 RX4 yX4_brim wsX4_brim) := goodIn_app (goodIn_of _ (by decide +kernel)) ggL_refusesAny_X4_brim
set_option maxRecDepth 20000 in
theorem ggL_refusesAny_X4_drain : GoodIn wsL_refusesAny wsX4_drain := goodIn_r _ [99, 6, 19, 9, 89, 90, 4, 91, 100, 101, 102, 27, 103, 77, 104, 105, 53, 54, 55, 56, 57, 58, 59, 60, 61, 62, 63, 64, 65, 66, 67, 68, 69, 70, 71, 72, 73, 74, 75, 37, 76, 78, 79, 80, 81, 82, 83, 92, 93, 94, 95, 106, 107, 108, 109, 309, 310, 311, 312, 313, 314, 315, 316, 317, 318, 319, 320, 321, 322, 323, 324, 325, 326, 327, 330, 331] (by decide +kernel) (by decide +kernel)
set_option maxRecDepth 20000 in
theorem gL_refusesAny_X4_drain : GoodIn wsL_refusesAny (wsV RL 53 RX4 yX4_drain wsX4_drain) := goodIn_app (goodIn_of _ (by decide +kernel)) ggL_refusesAny_X4_drain
set_option maxRecDepth 20000 in
theorem ggL_refusesAny_X4_permit : GoodIn wsL_refusesAny wsX4_permit := goodIn_r _ [113, 6, 19, 114, 7, 115, 116, 4, 117, 89, 90, 91, 100, 101, 102, 27, 103, 77, 104, 105, 53, 54, 55, 56, 57, 58, 59, 60, 61, 62, 63, 64, 65, 66, 67, 68, 69, 70, 71, 72, 73, 74, 75, 37, 76, 78, 79, 80, 81, 82, 83, 118, 38, 39, 119, 30, 31, 32, 33, 34, 35, 36, 120, 41, 42, 43, 44, 45, 46, 309, 310, 311, 312, 313, 314, 315, 316, 317, 318, 319, 320, 321, 322, 323, 324, 325, 326, 327, 330, 331] (by decide +kernel) (by decide +kernel)
set_option maxRecDepth 20000 in
theorem gL_refusesAny_X4_permit : GoodIn wsL_refusesAny (wsV RL 56 RX4 yX4_permit wsX4_permit) := goodIn_app (goodIn_of _ (by decide +kernel)) ggL_refusesAny_X4_permit
set_option maxRecDepth 20000 in
theorem ggL_refusesAny_X4_shoes : GoodIn wsL_refusesAny wsX4_shoes := goodIn_r _ [124, 19, 6, 125, 115, 116, 4, 117, 53, 54, 55, 56, 57, 58, 59, 60, 61, 62, 63, 64, 65, 66, 27, 67, 68, 69, 70, 71, 72, 73, 74, 75, 37, 76, 77, 78, 79, 80, 81, 82, 83, 309, 310, 311, 312, 313, 314, 315, 316, 317, 318, 319, 320, 321, 322, 323, 324, 325, 326, 327, 330, 331] (by decide +kernel) (by decide +kernel)
set_option maxRecDepth 20000 in
theorem gL_refusesAny_X4_shoes : GoodIn wsL_refusesAny (wsV RL 59 RX4 yX4_shoes wsX4_shoes) := goodIn_app (goodIn_of _ (by decide +kernel)) ggL_refusesAny_X4_shoes
set_option maxRecDepth 20000 in
theorem ggL_refusesAny_X4_walk : GoodIn wsL_refusesAny wsX4_walk := goodIn_r _ [129, 19, 6, 115, 116, 4, 117, 89, 90, 91, 53, 54, 55, 56, 57, 58, 59, 60, 61, 62, 63, 64, 65, 66, 27, 67, 68, 69, 70, 71, 72, 73, 74, 75, 37, 76, 77, 78, 79, 80, 81, 82, 83, 130, 131, 132, 133, 134, 135, 136, 137, 138, 139, 140, 141, 142, 143, 144, 145, 146, 147, 148, 101, 102, 103, 104, 105, 33, 34, 35, 36, 38, 39, 149, 150, 151, 152, 153, 154, 155, 156, 157, 158, 159, 160, 161, 162, 163, 164, 165, 166, 167, 168, 309, 310, 311, 312, 330, 331, 313, 314, 315, 316, 317, 318, 319, 320, 321, 322, 323, 324, 325, 326, 327] (by decide +kernel) (by decide +kernel)
set_option maxRecDepth 20000 in
theorem gL_refusesAny_X4_walk : GoodIn wsL_refusesAny (wsV RL 62 RX4 yX4_walk wsX4_walk) := goodIn_app (goodIn_of _ (by decide +kernel)) ggL_refusesAny_X4_walk
set_option maxRecDepth 20000 in
theorem ggL_refusesAny_X4_pay : GoodIn wsL_refusesAny wsX4_pay := goodIn_r _ [172, 19, 6, 15, 16, 115, 116, 4, 117, 53, 54, 55, 56, 57, 58, 59, 60, 61, 62, 63, 64, 65, 66, 27, 67, 68, 69, 70, 71, 72, 73, 74, 75, 37, 76, 77, 78, 79, 80, 81, 82, 83, 309, 310, 311, 312, 313, 314, 315, 316, 317, 318, 319, 320, 321, 322, 323, 324, 325, 326, 327, 330, 331] (by decide +kernel) (by decide +kernel)
set_option maxRecDepth 20000 in
theorem gL_refusesAny_X4_pay : GoodIn wsL_refusesAny (wsV RL 66 RX4 yX4_pay wsX4_pay) := goodIn_app (goodIn_of _ (by decide +kernel)) ggL_refusesAny_X4_pay
set_option maxRecDepth 20000 in
theorem ggL_refusesAny_X4_pass : GoodIn wsL_refusesAny wsX4_pass := goodIn_r _ [176, 6, 8, 19, 9, 53, 54, 55, 56, 57, 58, 59, 60, 61, 62, 63, 64, 65, 66, 27, 67, 68, 69, 70, 71, 72, 73, 74, 75, 37, 76, 77, 78, 79, 80, 81, 82, 4, 83, 177, 178, 179, 180, 181, 182, 183, 184, 185, 186, 136, 187, 153, 154, 155, 156, 104, 105, 188, 189, 190, 191, 149, 150, 151, 152, 192, 193, 194, 195, 196, 197, 198, 199, 38, 39, 200, 201, 202, 203, 21, 22, 23, 309, 310, 311, 312, 313, 314, 315, 316, 317, 318, 319, 320, 321, 322, 323, 324, 325, 326, 327, 330, 331] (by decide +kernel) (by decide +kernel)
set_option maxRecDepth 20000 in
theorem gL_refusesAny_X4_pass : GoodIn wsL_refusesAny (wsV RL 69 RX4 yX4_pass wsX4_pass) := goodIn_app (goodIn_of _ (by decide +kernel)) ggL_refusesAny_X4_pass
set_option maxRecDepth 20000 in
theorem ggL_refusesAny_X4_puddle : GoodIn wsL_refusesAny wsX4_puddle := goodIn_r _ [207, 6, 88, 9, 208, 89, 90, 4, 91, 209, 150, 151, 27, 152, 70, 210, 154, 155, 156, 76, 104, 105, 100, 101, 102, 103, 77, 211, 212, 213, 214, 33, 34, 35, 36, 37, 38, 39, 309, 310, 311, 312, 313, 314, 315, 316, 317, 318, 319, 320, 321, 322, 323, 324, 325, 326, 327] (by decide +kernel) (by decide +kernel)
set_option maxRecDepth 20000 in
theorem gL_refusesAny_X4_puddle : GoodIn wsL_refusesAny (wsV RL 24 RX4 yX4_puddle wsX4_puddle) := goodIn_app (goodIn_of _ (by decide +kernel)) ggL_refusesAny_X4_puddle
set_option maxRecDepth 20000 in
theorem ggL_refusesAny_X4_walker : GoodIn wsL_refusesAny wsX4_walker := goodIn_r _ [218, 6, 125, 15, 16, 219, 115, 116, 4, 117, 119, 30, 31, 27, 32, 33, 34, 35, 36, 37, 38, 39, 220, 221, 222, 223, 140, 141, 142, 143, 72, 144, 145, 146, 147, 148, 101, 102, 103, 77, 104, 105, 149, 150, 151, 152, 70, 153, 154, 155, 156, 76, 157, 158, 159, 309, 310, 311, 312, 313, 314, 315, 316, 317, 318, 319, 320, 321, 322, 323, 324, 325, 326, 327] (by decide +kernel) (by decide +kernel)
set_option maxRecDepth 20000 in
theorem gL_refusesAny_X4_walker : GoodIn wsL_refusesAny (wsV RL 27 RX4 yX4_walker wsX4_walker) := goodIn_app (goodIn_of _ (by decide +kernel)) ggL_refusesAny_X4_walker
set_option maxRecDepth 20000 in
theorem ggL_refusesAny_X4_why : GoodIn wsL_refusesAny wsX4_why := goodIn_r _ [227, 6, 125, 115, 116, 4, 117, 89, 90, 91, 228, 145, 146, 27, 147, 148, 101, 102, 103, 77, 104, 105, 33, 34, 35, 36, 37, 38, 39, 149, 150, 151, 152, 70, 153, 154, 155, 156, 76, 157, 158, 159, 309, 310, 311, 312, 313, 314, 315, 316, 317, 318, 319, 320, 321, 322, 323, 324, 325, 326, 327] (by decide +kernel) (by decide +kernel)
set_option maxRecDepth 20000 in
theorem gL_refusesAny_X4_why : GoodIn wsL_refusesAny (wsV RL 44 RX4 yX4_why wsX4_why) := goodIn_app (goodIn_of _ (by decide +kernel)) ggL_refusesAny_X4_why
set_option maxRecDepth 20000 in
theorem ggL_refusesAny_X4_holds : GoodIn wsL_refusesAny wsX4_holds := goodIn_r _ [232, 6, 114, 115, 116, 4, 117, 89, 90, 91, 118, 38, 39, 309, 310, 311, 312, 313, 314, 315, 316, 317, 318, 319, 320, 321, 322, 323, 324, 325, 326, 327] (by decide +kernel) (by decide +kernel)
set_option maxRecDepth 20000 in
theorem gL_refusesAny_X4_holds : GoodIn wsL_refusesAny (wsV RL 20 RX4 yX4_holds wsX4_holds) := goodIn_app (goodIn_of _ (by decide +kernel)) ggL_refusesAny_X4_holds
set_option maxRecDepth 20000 in
theorem ggL_refusesAny_X4_cost : GoodIn wsL_refusesAny wsX4_cost := goodIn_r _ [236, 6, 115, 116, 4, 117, 89, 90, 91, 237, 238, 239, 27, 240, 134, 135, 136, 137, 138, 139, 140, 141, 142, 143, 72, 144, 145, 146, 147, 148, 101, 102, 103, 77, 104, 105, 33, 34, 35, 36, 37, 38, 39, 149, 150, 151, 152, 70, 153, 154, 155, 156, 76, 157, 158, 159, 165, 166, 167, 168, 68, 241, 242, 243, 244, 245, 131, 132, 133, 309, 310, 311, 312, 313, 314, 315, 316, 317, 318, 319, 320, 321, 322, 323, 324, 325, 326, 327] (by decide +kernel) (by decide +kernel)
set_option maxRecDepth 20000 in
theorem gL_refusesAny_X4_cost : GoodIn wsL_refusesAny (wsV RL 72 RX4 yX4_cost wsX4_cost) := goodIn_app (goodIn_of _ (by decide +kernel)) ggL_refusesAny_X4_cost
set_option maxRecDepth 20000 in
theorem ggL_refusesAny_X4_untilDry : GoodIn wsL_refusesAny wsX4_untilDry := goodIn_r _ [249, 6, 9, 7, 89, 90, 4, 91, 210, 154, 155, 27, 156, 76, 104, 105, 309, 310, 311, 312, 313, 314, 315, 316, 317, 318, 319, 320, 321, 322, 323, 324, 325, 326, 327] (by decide +kernel) (by decide +kernel)
set_option maxRecDepth 20000 in
theorem gL_refusesAny_X4_untilDry : GoodIn wsL_refusesAny (wsV RL 35 RX4 yX4_untilDry wsX4_untilDry) := goodIn_app (goodIn_of _ (by decide +kernel)) ggL_refusesAny_X4_untilDry
set_option maxRecDepth 20000 in
theorem ggL_refusesAny_X4_leastShoes : GoodIn wsL_refusesAny wsX4_leastShoes := goodIn_r _ [253, 6, 115, 116, 4, 117, 254, 255, 256, 27, 257, 144, 145, 146, 147, 148, 101, 102, 103, 77, 104, 105, 33, 34, 35, 36, 37, 38, 39, 149, 150, 151, 152, 70, 153, 154, 155, 156, 76, 157, 158, 159, 309, 310, 311, 312, 313, 314, 315, 316, 317, 318, 319, 320, 321, 322, 323, 324, 325, 326, 327] (by decide +kernel) (by decide +kernel)
set_option maxRecDepth 20000 in
theorem gL_refusesAny_X4_leastShoes : GoodIn wsL_refusesAny (wsV RL 38 RX4 yX4_leastShoes wsX4_leastShoes) := goodIn_app (goodIn_of _ (by decide +kernel)) ggL_refusesAny_X4_leastShoes
set_option maxRecDepth 20000 in
theorem ggL_refusesAny_X4_longestWalk : GoodIn wsL_refusesAny wsX4_longestWalk := goodIn_r _ [261, 6, 115, 116, 4, 117, 220, 221, 222, 27, 223, 140, 141, 142, 143, 72, 144, 145, 146, 147, 148, 101, 102, 103, 77, 104, 105, 33, 34, 35, 36, 37, 38, 39, 149, 150, 151, 152, 70, 153, 154, 155, 156, 76, 157, 158, 159, 262, 309, 310, 311, 312, 313, 314, 315, 316, 317, 318, 319, 320, 321, 322, 323, 324, 325, 326, 327] (by decide +kernel) (by decide +kernel)
set_option maxRecDepth 20000 in
theorem gL_refusesAny_X4_longestWalk : GoodIn wsL_refusesAny (wsV RL 41 RX4 yX4_longestWalk wsX4_longestWalk) := goodIn_app (goodIn_of _ (by decide +kernel)) ggL_refusesAny_X4_longestWalk
set_option maxRecDepth 20000 in
theorem ggL_refusesAny_X4_save : GoodIn wsL_refusesAny wsX4_save := goodIn_r _ [266, 267, 268, 6, 269, 8, 270, 65, 66, 27, 67, 68, 69, 70, 71, 72, 73, 74, 75, 37, 76, 77, 78, 79, 80, 81, 82, 4, 83, 309, 310, 311, 312, 332, 333, 313, 314, 315, 316, 317, 318, 319, 320, 321, 322, 323, 324, 325, 326, 327] (by decide +kernel) (by decide +kernel)
set_option maxRecDepth 20000 in
theorem gL_refusesAny_X4_save : GoodIn wsL_refusesAny (wsV RL 76 RX4 yX4_save wsX4_save) := goodIn_app (goodIn_of _ (by decide +kernel)) ggL_refusesAny_X4_save
set_option maxRecDepth 20000 in
theorem ggL_refusesAny_X4_restore : GoodIn wsL_refusesAny wsX4_restore := goodIn_r _ [274, 267, 269, 19, 6, 268, 8, 53, 54, 55, 56, 57, 58, 59, 60, 61, 62, 63, 64, 65, 66, 27, 67, 68, 69, 70, 71, 72, 73, 74, 75, 37, 76, 77, 78, 79, 80, 81, 82, 4, 83, 270, 309, 310, 311, 312, 332, 333, 313, 314, 315, 316, 317, 318, 319, 320, 321, 322, 323, 324, 325, 326, 327, 330, 331] (by decide +kernel) (by decide +kernel)
set_option maxRecDepth 20000 in
theorem gL_refusesAny_X4_restore : GoodIn wsL_refusesAny (wsV RL 79 RX4 yX4_restore wsX4_restore) := goodIn_app (goodIn_of _ (by decide +kernel)) ggL_refusesAny_X4_restore
set_option maxRecDepth 20000 in
theorem ggL_refusesAny_X4_wipe : GoodIn wsL_refusesAny wsX4_wipe := goodIn_r _ [278, 17, 18, 309, 310, 311, 312, 328, 329] (by decide +kernel) (by decide +kernel)
set_option maxRecDepth 20000 in
theorem gL_refusesAny_X4_wipe : GoodIn wsL_refusesAny (wsV RL 82 RX4 yX4_wipe wsX4_wipe) := goodIn_app (goodIn_of _ (by decide +kernel)) ggL_refusesAny_X4_wipe
set_option maxRecDepth 20000 in
theorem ggL_refusesAny_X4_read : GoodIn wsL_refusesAny wsX4_read := goodIn_r _ [282, 17, 6, 8, 19, 18, 9, 283, 284, 285, 286, 287, 288, 289, 290, 291, 292, 293, 294, 295, 296, 297, 298, 299, 300, 301, 302, 303, 53, 54, 55, 56, 57, 58, 59, 60, 61, 62, 63, 64, 65, 66, 27, 67, 68, 69, 70, 71, 72, 73, 74, 75, 37, 76, 77, 78, 79, 80, 81, 82, 4, 83, 304, 177, 178, 179, 180, 181, 182, 183, 184, 185, 186, 136, 187, 153, 154, 155, 156, 104, 105, 188, 189, 190, 191, 149, 150, 151, 152, 192, 193, 194, 195, 196, 197, 198, 199, 38, 39, 200, 201, 202, 203, 21, 22, 23, 309, 310, 311, 312, 313, 314, 315, 316, 317, 318, 319, 320, 321, 322, 323, 324, 325, 326, 327, 328, 329, 330, 331] (by decide +kernel) (by decide +kernel)
set_option maxRecDepth 20000 in
theorem gL_refusesAny_X4_read : GoodIn wsL_refusesAny (wsV RL 86 RX4 yX4_read wsX4_read) := goodIn_app (goodIn_of _ (by decide +kernel)) ggL_refusesAny_X4_read
set_option maxRecDepth 20000 in
theorem ggL_refusesAny_X4_fault : GoodIn wsL_refusesAny wsX4_fault := goodIn_r _ [308, 17, 283, 284, 285, 286, 287, 288, 289, 290, 291, 292, 293, 294, 295, 309, 310, 311, 312, 328, 329] (by decide +kernel) (by decide +kernel)
set_option maxRecDepth 20000 in
theorem gL_refusesAny_X4_fault : GoodIn wsL_refusesAny (wsV RL 89 RX4 yX4_fault wsX4_fault) := goodIn_app (goodIn_of _ (by decide +kernel)) ggL_refusesAny_X4_fault
theorem dL_refusesAny_0 : decode cL_refusesAny 0 = .ok (.iload_n 1, 1) := by decide +kernel
theorem dL_refusesAny_1 : decode cL_refusesAny 1 = .ok (.iconst 2, 1) := by decide +kernel
theorem dL_refusesAny_2 : decode cL_refusesAny 2 = .ok (.irem, 1) := by decide +kernel
theorem dL_refusesAny_3 : decode cL_refusesAny 3 = .ok (.ifCond .ne 12, 3) := by decide +kernel
theorem dL_refusesAny_6 : decode cL_refusesAny 6 = .ok (.iconst (-1), 1) := by decide +kernel
theorem dL_refusesAny_7 : decode cL_refusesAny 7 = .ok (.iload_n 1, 1) := by decide +kernel
theorem dL_refusesAny_8 : decode cL_refusesAny 8 = .ok (.bipush 99, 2) := by decide +kernel
theorem dL_refusesAny_10 : decode cL_refusesAny 10 = .ok (.irem, 1) := by decide +kernel
theorem dL_refusesAny_11 : decode cL_refusesAny 11 = .ok (.isub, 1) := by decide +kernel
theorem dL_refusesAny_12 : decode cL_refusesAny 12 = .ok (.goto 10, 3) := by decide +kernel
theorem dL_refusesAny_15 : decode cL_refusesAny 15 = .ok (.bipush 12, 2) := by decide +kernel
theorem dL_refusesAny_17 : decode cL_refusesAny 17 = .ok (.iload_n 1, 1) := by decide +kernel
theorem dL_refusesAny_18 : decode cL_refusesAny 18 = .ok (.bipush 99, 2) := by decide +kernel
theorem dL_refusesAny_20 : decode cL_refusesAny 20 = .ok (.irem, 1) := by decide +kernel
theorem dL_refusesAny_21 : decode cL_refusesAny 21 = .ok (.iadd, 1) := by decide +kernel
theorem dL_refusesAny_22 : decode cL_refusesAny 22 = .ok (.istore_n 2, 1) := by decide +kernel
theorem dL_refusesAny_23 : decode cL_refusesAny 23 = .ok (.iload_n 1, 1) := by decide +kernel
theorem dL_refusesAny_24 : decode cL_refusesAny 24 = .ok (.iconst 2, 1) := by decide +kernel
theorem dL_refusesAny_25 : decode cL_refusesAny 25 = .ok (.irem, 1) := by decide +kernel
theorem dL_refusesAny_26 : decode cL_refusesAny 26 = .ok (.ifCond .ne 12, 3) := by decide +kernel
theorem dL_refusesAny_29 : decode cL_refusesAny 29 = .ok (.iconst (-1), 1) := by decide +kernel
theorem dL_refusesAny_30 : decode cL_refusesAny 30 = .ok (.iload_n 1, 1) := by decide +kernel
theorem dL_refusesAny_31 : decode cL_refusesAny 31 = .ok (.bipush 99, 2) := by decide +kernel
theorem dL_refusesAny_33 : decode cL_refusesAny 33 = .ok (.irem, 1) := by decide +kernel
theorem dL_refusesAny_34 : decode cL_refusesAny 34 = .ok (.isub, 1) := by decide +kernel
theorem dL_refusesAny_35 : decode cL_refusesAny 35 = .ok (.goto 10, 3) := by decide +kernel
theorem dL_refusesAny_38 : decode cL_refusesAny 38 = .ok (.bipush 6, 2) := by decide +kernel
theorem dL_refusesAny_40 : decode cL_refusesAny 40 = .ok (.iload_n 1, 1) := by decide +kernel
theorem dL_refusesAny_41 : decode cL_refusesAny 41 = .ok (.bipush 99, 2) := by decide +kernel
theorem dL_refusesAny_43 : decode cL_refusesAny 43 = .ok (.irem, 1) := by decide +kernel
theorem dL_refusesAny_44 : decode cL_refusesAny 44 = .ok (.iadd, 1) := by decide +kernel
theorem dL_refusesAny_45 : decode cL_refusesAny 45 = .ok (.istore_n 3, 1) := by decide +kernel
theorem dL_refusesAny_46 : decode cL_refusesAny 46 = .ok (.iload_n 1, 1) := by decide +kernel
theorem dL_refusesAny_47 : decode cL_refusesAny 47 = .ok (.bipush 12, 2) := by decide +kernel
theorem dL_refusesAny_49 : decode cL_refusesAny 49 = .ok (.irem, 1) := by decide +kernel
theorem dL_refusesAny_50 : decode cL_refusesAny 50 = .ok (.istore 4, 2) := by decide +kernel
theorem dL_refusesAny_52 : decode cL_refusesAny 52 = .ok (.aload_n 0, 1) := by decide +kernel
theorem dL_refusesAny_53 : decode cL_refusesAny 53 = .ok (.bipush 10, 2) := by decide +kernel
theorem dL_refusesAny_55 : decode cL_refusesAny 55 = .ok (.invokevirtual 14, 3) := by decide +kernel
theorem dL_refusesAny_58 : decode cL_refusesAny 58 = .ok (.iload 4, 2) := by decide +kernel
theorem dL_refusesAny_60 : decode cL_refusesAny 60 = .ok (.ishr, 1) := by decide +kernel
theorem dL_refusesAny_61 : decode cL_refusesAny 61 = .ok (.iconst 1, 1) := by decide +kernel
theorem dL_refusesAny_62 : decode cL_refusesAny 62 = .ok (.iand, 1) := by decide +kernel
theorem dL_refusesAny_63 : decode cL_refusesAny 63 = .ok (.iconst 1, 1) := by decide +kernel
theorem dL_refusesAny_64 : decode cL_refusesAny 64 = .ok (.if_icmp .ne 7, 3) := by decide +kernel
theorem dL_refusesAny_67 : decode cL_refusesAny 67 = .ok (.iconst 1, 1) := by decide +kernel
theorem dL_refusesAny_68 : decode cL_refusesAny 68 = .ok (.goto 4, 3) := by decide +kernel
theorem dL_refusesAny_71 : decode cL_refusesAny 71 = .ok (.iconst 0, 1) := by decide +kernel
theorem dL_refusesAny_72 : decode cL_refusesAny 72 = .ok (.istore 5, 2) := by decide +kernel
theorem dL_refusesAny_74 : decode cL_refusesAny 74 = .ok (.aload_n 0, 1) := by decide +kernel
theorem dL_refusesAny_75 : decode cL_refusesAny 75 = .ok (.iload_n 1, 1) := by decide +kernel
theorem dL_refusesAny_76 : decode cL_refusesAny 76 = .ok (.iconst 2, 1) := by decide +kernel
theorem dL_refusesAny_77 : decode cL_refusesAny 77 = .ok (.irem, 1) := by decide +kernel
theorem dL_refusesAny_78 : decode cL_refusesAny 78 = .ok (.ifCond .ne 7, 3) := by decide +kernel
theorem dL_refusesAny_81 : decode cL_refusesAny 81 = .ok (.iconst (-1), 1) := by decide +kernel
theorem dL_refusesAny_82 : decode cL_refusesAny 82 = .ok (.goto 4, 3) := by decide +kernel
theorem dL_refusesAny_85 : decode cL_refusesAny 85 = .ok (.iconst 4, 1) := by decide +kernel
theorem dL_refusesAny_86 : decode cL_refusesAny 86 = .ok (.iconst 5, 1) := by decide +kernel
theorem dL_refusesAny_87 : decode cL_refusesAny 87 = .ok (.invokevirtual 47, 3) := by decide +kernel
theorem dL_refusesAny_90 : decode cL_refusesAny 90 = .ok (.bipush (-2), 2) := by decide +kernel
theorem dL_refusesAny_92 : decode cL_refusesAny 92 = .ok (.if_icmp .ne 280, 3) := by decide +kernel
theorem dL_refusesAny_95 : decode cL_refusesAny 95 = .ok (.aload_n 0, 1) := by decide +kernel
theorem dL_refusesAny_96 : decode cL_refusesAny 96 = .ok (.iconst 0, 1) := by decide +kernel
theorem dL_refusesAny_97 : decode cL_refusesAny 97 = .ok (.iload_n 1, 1) := by decide +kernel
theorem dL_refusesAny_98 : decode cL_refusesAny 98 = .ok (.iconst 2, 1) := by decide +kernel
theorem dL_refusesAny_99 : decode cL_refusesAny 99 = .ok (.irem, 1) := by decide +kernel
theorem dL_refusesAny_100 : decode cL_refusesAny 100 = .ok (.ifCond .ne 7, 3) := by decide +kernel
theorem dL_refusesAny_103 : decode cL_refusesAny 103 = .ok (.iconst (-1), 1) := by decide +kernel
theorem dL_refusesAny_104 : decode cL_refusesAny 104 = .ok (.goto 5, 3) := by decide +kernel
theorem dL_refusesAny_107 : decode cL_refusesAny 107 = .ok (.bipush 21, 2) := by decide +kernel
theorem dL_refusesAny_109 : decode cL_refusesAny 109 = .ok (.invokevirtual 47, 3) := by decide +kernel
theorem dL_refusesAny_112 : decode cL_refusesAny 112 = .ok (.bipush (-2), 2) := by decide +kernel
theorem dL_refusesAny_114 : decode cL_refusesAny 114 = .ok (.if_icmp .ne 258, 3) := by decide +kernel
theorem dL_refusesAny_117 : decode cL_refusesAny 117 = .ok (.aload_n 0, 1) := by decide +kernel
theorem dL_refusesAny_118 : decode cL_refusesAny 118 = .ok (.iconst 1, 1) := by decide +kernel
theorem dL_refusesAny_119 : decode cL_refusesAny 119 = .ok (.iload_n 1, 1) := by decide +kernel
theorem dL_refusesAny_120 : decode cL_refusesAny 120 = .ok (.iconst 2, 1) := by decide +kernel
theorem dL_refusesAny_121 : decode cL_refusesAny 121 = .ok (.irem, 1) := by decide +kernel
theorem dL_refusesAny_122 : decode cL_refusesAny 122 = .ok (.ifCond .ne 7, 3) := by decide +kernel
theorem dL_refusesAny_125 : decode cL_refusesAny 125 = .ok (.iconst (-1), 1) := by decide +kernel
theorem dL_refusesAny_126 : decode cL_refusesAny 126 = .ok (.goto 5, 3) := by decide +kernel
theorem dL_refusesAny_129 : decode cL_refusesAny 129 = .ok (.bipush 21, 2) := by decide +kernel
theorem dL_refusesAny_131 : decode cL_refusesAny 131 = .ok (.invokevirtual 47, 3) := by decide +kernel
theorem dL_refusesAny_134 : decode cL_refusesAny 134 = .ok (.bipush (-2), 2) := by decide +kernel
theorem dL_refusesAny_136 : decode cL_refusesAny 136 = .ok (.if_icmp .ne 236, 3) := by decide +kernel
theorem dL_refusesAny_139 : decode cL_refusesAny 139 = .ok (.aload_n 0, 1) := by decide +kernel
theorem dL_refusesAny_140 : decode cL_refusesAny 140 = .ok (.iconst 2, 1) := by decide +kernel
theorem dL_refusesAny_141 : decode cL_refusesAny 141 = .ok (.iload_n 1, 1) := by decide +kernel
theorem dL_refusesAny_142 : decode cL_refusesAny 142 = .ok (.iconst 2, 1) := by decide +kernel
theorem dL_refusesAny_143 : decode cL_refusesAny 143 = .ok (.irem, 1) := by decide +kernel
theorem dL_refusesAny_144 : decode cL_refusesAny 144 = .ok (.ifCond .ne 7, 3) := by decide +kernel
theorem dL_refusesAny_147 : decode cL_refusesAny 147 = .ok (.iconst 0, 1) := by decide +kernel
theorem dL_refusesAny_148 : decode cL_refusesAny 148 = .ok (.goto 5, 3) := by decide +kernel
theorem dL_refusesAny_151 : decode cL_refusesAny 151 = .ok (.bipush 100, 2) := by decide +kernel
theorem dL_refusesAny_153 : decode cL_refusesAny 153 = .ok (.invokevirtual 47, 3) := by decide +kernel
theorem dL_refusesAny_156 : decode cL_refusesAny 156 = .ok (.bipush (-2), 2) := by decide +kernel
theorem dL_refusesAny_158 : decode cL_refusesAny 158 = .ok (.if_icmp .ne 214, 3) := by decide +kernel
theorem dL_refusesAny_161 : decode cL_refusesAny 161 = .ok (.aload_n 0, 1) := by decide +kernel
theorem dL_refusesAny_162 : decode cL_refusesAny 162 = .ok (.iconst 3, 1) := by decide +kernel
theorem dL_refusesAny_163 : decode cL_refusesAny 163 = .ok (.iload_n 1, 1) := by decide +kernel
theorem dL_refusesAny_164 : decode cL_refusesAny 164 = .ok (.iconst 2, 1) := by decide +kernel
theorem dL_refusesAny_165 : decode cL_refusesAny 165 = .ok (.irem, 1) := by decide +kernel
theorem dL_refusesAny_166 : decode cL_refusesAny 166 = .ok (.ifCond .ne 7, 3) := by decide +kernel
theorem dL_refusesAny_169 : decode cL_refusesAny 169 = .ok (.iconst 0, 1) := by decide +kernel
theorem dL_refusesAny_170 : decode cL_refusesAny 170 = .ok (.goto 5, 3) := by decide +kernel
theorem dL_refusesAny_173 : decode cL_refusesAny 173 = .ok (.bipush 31, 2) := by decide +kernel
theorem dL_refusesAny_175 : decode cL_refusesAny 175 = .ok (.invokevirtual 47, 3) := by decide +kernel
theorem dL_refusesAny_178 : decode cL_refusesAny 178 = .ok (.bipush (-2), 2) := by decide +kernel
theorem dL_refusesAny_180 : decode cL_refusesAny 180 = .ok (.if_icmp .ne 192, 3) := by decide +kernel
theorem dL_refusesAny_183 : decode cL_refusesAny 183 = .ok (.aload_n 0, 1) := by decide +kernel
theorem dL_refusesAny_184 : decode cL_refusesAny 184 = .ok (.iload_n 2, 1) := by decide +kernel
theorem dL_refusesAny_185 : decode cL_refusesAny 185 = .ok (.iconst 0, 1) := by decide +kernel
theorem dL_refusesAny_186 : decode cL_refusesAny 186 = .ok (.invokevirtual 50, 3) := by decide +kernel
theorem dL_refusesAny_189 : decode cL_refusesAny 189 = .ok (.iconst (-1), 1) := by decide +kernel
theorem dL_refusesAny_190 : decode cL_refusesAny 190 = .ok (.if_icmp .ne 182, 3) := by decide +kernel
theorem dL_refusesAny_193 : decode cL_refusesAny 193 = .ok (.aload_n 0, 1) := by decide +kernel
theorem dL_refusesAny_194 : decode cL_refusesAny 194 = .ok (.iload 4, 2) := by decide +kernel
theorem dL_refusesAny_196 : decode cL_refusesAny 196 = .ok (.iload_n 1, 1) := by decide +kernel
theorem dL_refusesAny_197 : decode cL_refusesAny 197 = .ok (.iconst 2, 1) := by decide +kernel
theorem dL_refusesAny_198 : decode cL_refusesAny 198 = .ok (.irem, 1) := by decide +kernel
theorem dL_refusesAny_199 : decode cL_refusesAny 199 = .ok (.ifCond .ne 7, 3) := by decide +kernel
theorem dL_refusesAny_202 : decode cL_refusesAny 202 = .ok (.iconst 0, 1) := by decide +kernel
theorem dL_refusesAny_203 : decode cL_refusesAny 203 = .ok (.goto 5, 3) := by decide +kernel
theorem dL_refusesAny_206 : decode cL_refusesAny 206 = .ok (.bipush 61, 2) := by decide +kernel
theorem dL_refusesAny_208 : decode cL_refusesAny 208 = .ok (.invokevirtual 50, 3) := by decide +kernel
theorem dL_refusesAny_211 : decode cL_refusesAny 211 = .ok (.bipush (-2), 2) := by decide +kernel
theorem dL_refusesAny_213 : decode cL_refusesAny 213 = .ok (.if_icmp .ne 159, 3) := by decide +kernel
theorem dL_refusesAny_216 : decode cL_refusesAny 216 = .ok (.aload_n 0, 1) := by decide +kernel
theorem dL_refusesAny_217 : decode cL_refusesAny 217 = .ok (.iload_n 2, 1) := by decide +kernel
theorem dL_refusesAny_218 : decode cL_refusesAny 218 = .ok (.invokevirtual 53, 3) := by decide +kernel
theorem dL_refusesAny_221 : decode cL_refusesAny 221 = .ok (.iconst (-1), 1) := by decide +kernel
theorem dL_refusesAny_222 : decode cL_refusesAny 222 = .ok (.if_icmp .ne 150, 3) := by decide +kernel
theorem dL_refusesAny_225 : decode cL_refusesAny 225 = .ok (.iload 5, 2) := by decide +kernel
theorem dL_refusesAny_227 : decode cL_refusesAny 227 = .ok (.ifCond .eq 26, 3) := by decide +kernel
theorem dL_refusesAny_230 : decode cL_refusesAny 230 = .ok (.aload_n 0, 1) := by decide +kernel
theorem dL_refusesAny_231 : decode cL_refusesAny 231 = .ok (.iload 4, 2) := by decide +kernel
theorem dL_refusesAny_233 : decode cL_refusesAny 233 = .ok (.invokevirtual 53, 3) := by decide +kernel
theorem dL_refusesAny_236 : decode cL_refusesAny 236 = .ok (.bipush (-5), 2) := by decide +kernel
theorem dL_refusesAny_238 : decode cL_refusesAny 238 = .ok (.if_icmp .ne 134, 3) := by decide +kernel
theorem dL_refusesAny_241 : decode cL_refusesAny 241 = .ok (.aload_n 0, 1) := by decide +kernel
theorem dL_refusesAny_242 : decode cL_refusesAny 242 = .ok (.iconst 0, 1) := by decide +kernel
theorem dL_refusesAny_243 : decode cL_refusesAny 243 = .ok (.iload 4, 2) := by decide +kernel
theorem dL_refusesAny_245 : decode cL_refusesAny 245 = .ok (.invokevirtual 56, 3) := by decide +kernel
theorem dL_refusesAny_248 : decode cL_refusesAny 248 = .ok (.bipush (-5), 2) := by decide +kernel
theorem dL_refusesAny_250 : decode cL_refusesAny 250 = .ok (.if_icmp .ne 122, 3) := by decide +kernel
theorem dL_refusesAny_253 : decode cL_refusesAny 253 = .ok (.aload_n 0, 1) := by decide +kernel
theorem dL_refusesAny_254 : decode cL_refusesAny 254 = .ok (.iload_n 3, 1) := by decide +kernel
theorem dL_refusesAny_255 : decode cL_refusesAny 255 = .ok (.bipush 9, 2) := by decide +kernel
theorem dL_refusesAny_257 : decode cL_refusesAny 257 = .ok (.invokevirtual 59, 3) := by decide +kernel
theorem dL_refusesAny_260 : decode cL_refusesAny 260 = .ok (.iconst (-1), 1) := by decide +kernel
theorem dL_refusesAny_261 : decode cL_refusesAny 261 = .ok (.if_icmp .ne 111, 3) := by decide +kernel
theorem dL_refusesAny_264 : decode cL_refusesAny 264 = .ok (.aload_n 0, 1) := by decide +kernel
theorem dL_refusesAny_265 : decode cL_refusesAny 265 = .ok (.iconst 0, 1) := by decide +kernel
theorem dL_refusesAny_266 : decode cL_refusesAny 266 = .ok (.iload_n 1, 1) := by decide +kernel
theorem dL_refusesAny_267 : decode cL_refusesAny 267 = .ok (.iconst 2, 1) := by decide +kernel
theorem dL_refusesAny_268 : decode cL_refusesAny 268 = .ok (.irem, 1) := by decide +kernel
theorem dL_refusesAny_269 : decode cL_refusesAny 269 = .ok (.ifCond .ne 7, 3) := by decide +kernel
theorem dL_refusesAny_272 : decode cL_refusesAny 272 = .ok (.iconst (-1), 1) := by decide +kernel
theorem dL_refusesAny_273 : decode cL_refusesAny 273 = .ok (.goto 4, 3) := by decide +kernel
theorem dL_refusesAny_276 : decode cL_refusesAny 276 = .ok (.iconst 4, 1) := by decide +kernel
theorem dL_refusesAny_277 : decode cL_refusesAny 277 = .ok (.invokevirtual 59, 3) := by decide +kernel
theorem dL_refusesAny_280 : decode cL_refusesAny 280 = .ok (.bipush (-2), 2) := by decide +kernel
theorem dL_refusesAny_282 : decode cL_refusesAny 282 = .ok (.if_icmp .ne 90, 3) := by decide +kernel
theorem dL_refusesAny_285 : decode cL_refusesAny 285 = .ok (.aload_n 0, 1) := by decide +kernel
theorem dL_refusesAny_286 : decode cL_refusesAny 286 = .ok (.iload_n 3, 1) := by decide +kernel
theorem dL_refusesAny_287 : decode cL_refusesAny 287 = .ok (.iconst 0, 1) := by decide +kernel
theorem dL_refusesAny_288 : decode cL_refusesAny 288 = .ok (.invokevirtual 56, 3) := by decide +kernel
theorem dL_refusesAny_291 : decode cL_refusesAny 291 = .ok (.iconst (-1), 1) := by decide +kernel
theorem dL_refusesAny_292 : decode cL_refusesAny 292 = .ok (.if_icmp .ne 80, 3) := by decide +kernel
theorem dL_refusesAny_295 : decode cL_refusesAny 295 = .ok (.aload_n 0, 1) := by decide +kernel
theorem dL_refusesAny_296 : decode cL_refusesAny 296 = .ok (.iconst 0, 1) := by decide +kernel
theorem dL_refusesAny_297 : decode cL_refusesAny 297 = .ok (.iload_n 2, 1) := by decide +kernel
theorem dL_refusesAny_298 : decode cL_refusesAny 298 = .ok (.invokevirtual 56, 3) := by decide +kernel
theorem dL_refusesAny_301 : decode cL_refusesAny 301 = .ok (.iconst (-1), 1) := by decide +kernel
theorem dL_refusesAny_302 : decode cL_refusesAny 302 = .ok (.if_icmp .ne 70, 3) := by decide +kernel
theorem dL_refusesAny_305 : decode cL_refusesAny 305 = .ok (.aload_n 0, 1) := by decide +kernel
theorem dL_refusesAny_306 : decode cL_refusesAny 306 = .ok (.iload_n 3, 1) := by decide +kernel
theorem dL_refusesAny_307 : decode cL_refusesAny 307 = .ok (.iconst 0, 1) := by decide +kernel
theorem dL_refusesAny_308 : decode cL_refusesAny 308 = .ok (.iconst 0, 1) := by decide +kernel
theorem dL_refusesAny_309 : decode cL_refusesAny 309 = .ok (.invokevirtual 62, 3) := by decide +kernel
theorem dL_refusesAny_312 : decode cL_refusesAny 312 = .ok (.iconst (-1), 1) := by decide +kernel
theorem dL_refusesAny_313 : decode cL_refusesAny 313 = .ok (.if_icmp .ne 59, 3) := by decide +kernel
theorem dL_refusesAny_316 : decode cL_refusesAny 316 = .ok (.aload_n 0, 1) := by decide +kernel
theorem dL_refusesAny_317 : decode cL_refusesAny 317 = .ok (.iconst 0, 1) := by decide +kernel
theorem dL_refusesAny_318 : decode cL_refusesAny 318 = .ok (.iload_n 2, 1) := by decide +kernel
theorem dL_refusesAny_319 : decode cL_refusesAny 319 = .ok (.iconst 0, 1) := by decide +kernel
theorem dL_refusesAny_320 : decode cL_refusesAny 320 = .ok (.invokevirtual 62, 3) := by decide +kernel
theorem dL_refusesAny_323 : decode cL_refusesAny 323 = .ok (.iconst (-1), 1) := by decide +kernel
theorem dL_refusesAny_324 : decode cL_refusesAny 324 = .ok (.if_icmp .ne 48, 3) := by decide +kernel
theorem dL_refusesAny_327 : decode cL_refusesAny 327 = .ok (.aload_n 0, 1) := by decide +kernel
theorem dL_refusesAny_328 : decode cL_refusesAny 328 = .ok (.iconst 0, 1) := by decide +kernel
theorem dL_refusesAny_329 : decode cL_refusesAny 329 = .ok (.iconst 0, 1) := by decide +kernel
theorem dL_refusesAny_330 : decode cL_refusesAny 330 = .ok (.iload_n 2, 1) := by decide +kernel
theorem dL_refusesAny_331 : decode cL_refusesAny 331 = .ok (.invokevirtual 62, 3) := by decide +kernel
theorem dL_refusesAny_334 : decode cL_refusesAny 334 = .ok (.iconst (-1), 1) := by decide +kernel
theorem dL_refusesAny_335 : decode cL_refusesAny 335 = .ok (.if_icmp .ne 37, 3) := by decide +kernel
theorem dL_refusesAny_338 : decode cL_refusesAny 338 = .ok (.aload_n 0, 1) := by decide +kernel
theorem dL_refusesAny_339 : decode cL_refusesAny 339 = .ok (.iload_n 3, 1) := by decide +kernel
theorem dL_refusesAny_340 : decode cL_refusesAny 340 = .ok (.invokevirtual 66, 3) := by decide +kernel
theorem dL_refusesAny_343 : decode cL_refusesAny 343 = .ok (.iconst (-1), 1) := by decide +kernel
theorem dL_refusesAny_344 : decode cL_refusesAny 344 = .ok (.if_icmp .ne 28, 3) := by decide +kernel
theorem dL_refusesAny_347 : decode cL_refusesAny 347 = .ok (.aload_n 0, 1) := by decide +kernel
theorem dL_refusesAny_348 : decode cL_refusesAny 348 = .ok (.iload_n 1, 1) := by decide +kernel
theorem dL_refusesAny_349 : decode cL_refusesAny 349 = .ok (.iconst 2, 1) := by decide +kernel
theorem dL_refusesAny_350 : decode cL_refusesAny 350 = .ok (.irem, 1) := by decide +kernel
theorem dL_refusesAny_351 : decode cL_refusesAny 351 = .ok (.ifCond .ne 7, 3) := by decide +kernel
theorem dL_refusesAny_354 : decode cL_refusesAny 354 = .ok (.iconst (-1), 1) := by decide +kernel
theorem dL_refusesAny_355 : decode cL_refusesAny 355 = .ok (.goto 5, 3) := by decide +kernel
theorem dL_refusesAny_358 : decode cL_refusesAny 358 = .ok (.bipush 12, 2) := by decide +kernel
theorem dL_refusesAny_360 : decode cL_refusesAny 360 = .ok (.invokevirtual 69, 3) := by decide +kernel
theorem dL_refusesAny_363 : decode cL_refusesAny 363 = .ok (.bipush (-2), 2) := by decide +kernel
theorem dL_refusesAny_365 : decode cL_refusesAny 365 = .ok (.if_icmp .ne 7, 3) := by decide +kernel
theorem dL_refusesAny_368 : decode cL_refusesAny 368 = .ok (.iconst 1, 1) := by decide +kernel
theorem dL_refusesAny_369 : decode cL_refusesAny 369 = .ok (.goto 4, 3) := by decide +kernel
theorem dL_refusesAny_372 : decode cL_refusesAny 372 = .ok (.iconst 0, 1) := by decide +kernel
theorem dL_refusesAny_373 : decode cL_refusesAny 373 = .ok (.istore 6, 2) := by decide +kernel
theorem dL_refusesAny_375 : decode cL_refusesAny 375 = .ok (.iload 6, 2) := by decide +kernel
theorem dL_refusesAny_377 : decode cL_refusesAny 377 = .ok (.ifCond .eq 287, 3) := by decide +kernel
theorem dL_refusesAny_380 : decode cL_refusesAny 380 = .ok (.aload_n 0, 1) := by decide +kernel
theorem dL_refusesAny_381 : decode cL_refusesAny 381 = .ok (.iload_n 2, 1) := by decide +kernel
theorem dL_refusesAny_382 : decode cL_refusesAny 382 = .ok (.bipush 99, 2) := by decide +kernel
theorem dL_refusesAny_384 : decode cL_refusesAny 384 = .ok (.invokevirtual 24, 3) := by decide +kernel
theorem dL_refusesAny_387 : decode cL_refusesAny 387 = .ok (.iconst (-1), 1) := by decide +kernel
theorem dL_refusesAny_388 : decode cL_refusesAny 388 = .ok (.if_icmp .ne 276, 3) := by decide +kernel
theorem dL_refusesAny_391 : decode cL_refusesAny 391 = .ok (.aload_n 0, 1) := by decide +kernel
theorem dL_refusesAny_392 : decode cL_refusesAny 392 = .ok (.iload 4, 2) := by decide +kernel
theorem dL_refusesAny_394 : decode cL_refusesAny 394 = .ok (.iload_n 1, 1) := by decide +kernel
theorem dL_refusesAny_395 : decode cL_refusesAny 395 = .ok (.iconst 2, 1) := by decide +kernel
theorem dL_refusesAny_396 : decode cL_refusesAny 396 = .ok (.irem, 1) := by decide +kernel
theorem dL_refusesAny_397 : decode cL_refusesAny 397 = .ok (.ifCond .ne 7, 3) := by decide +kernel
theorem dL_refusesAny_400 : decode cL_refusesAny 400 = .ok (.iconst (-1), 1) := by decide +kernel
theorem dL_refusesAny_401 : decode cL_refusesAny 401 = .ok (.goto 5, 3) := by decide +kernel
theorem dL_refusesAny_404 : decode cL_refusesAny 404 = .ok (.bipush 7, 2) := by decide +kernel
theorem dL_refusesAny_406 : decode cL_refusesAny 406 = .ok (.invokevirtual 24, 3) := by decide +kernel
theorem dL_refusesAny_409 : decode cL_refusesAny 409 = .ok (.bipush (-2), 2) := by decide +kernel
theorem dL_refusesAny_411 : decode cL_refusesAny 411 = .ok (.if_icmp .ne 253, 3) := by decide +kernel
theorem dL_refusesAny_414 : decode cL_refusesAny 414 = .ok (.aload_n 0, 1) := by decide +kernel
theorem dL_refusesAny_415 : decode cL_refusesAny 415 = .ok (.iload_n 3, 1) := by decide +kernel
theorem dL_refusesAny_416 : decode cL_refusesAny 416 = .ok (.bipush 99, 2) := by decide +kernel
theorem dL_refusesAny_418 : decode cL_refusesAny 418 = .ok (.invokevirtual 27, 3) := by decide +kernel
theorem dL_refusesAny_421 : decode cL_refusesAny 421 = .ok (.iconst (-1), 1) := by decide +kernel
theorem dL_refusesAny_422 : decode cL_refusesAny 422 = .ok (.if_icmp .ne 242, 3) := by decide +kernel
theorem dL_refusesAny_425 : decode cL_refusesAny 425 = .ok (.aload_n 0, 1) := by decide +kernel
theorem dL_refusesAny_426 : decode cL_refusesAny 426 = .ok (.iconst 0, 1) := by decide +kernel
theorem dL_refusesAny_427 : decode cL_refusesAny 427 = .ok (.iload_n 1, 1) := by decide +kernel
theorem dL_refusesAny_428 : decode cL_refusesAny 428 = .ok (.iconst 2, 1) := by decide +kernel
theorem dL_refusesAny_429 : decode cL_refusesAny 429 = .ok (.irem, 1) := by decide +kernel
theorem dL_refusesAny_430 : decode cL_refusesAny 430 = .ok (.ifCond .ne 7, 3) := by decide +kernel
theorem dL_refusesAny_433 : decode cL_refusesAny 433 = .ok (.iconst (-1), 1) := by decide +kernel
theorem dL_refusesAny_434 : decode cL_refusesAny 434 = .ok (.goto 5, 3) := by decide +kernel
theorem dL_refusesAny_437 : decode cL_refusesAny 437 = .ok (.bipush 6, 2) := by decide +kernel
theorem dL_refusesAny_439 : decode cL_refusesAny 439 = .ok (.invokevirtual 27, 3) := by decide +kernel
theorem dL_refusesAny_442 : decode cL_refusesAny 442 = .ok (.bipush (-2), 2) := by decide +kernel
theorem dL_refusesAny_444 : decode cL_refusesAny 444 = .ok (.if_icmp .ne 220, 3) := by decide +kernel
theorem dL_refusesAny_447 : decode cL_refusesAny 447 = .ok (.aload_n 0, 1) := by decide +kernel
theorem dL_refusesAny_448 : decode cL_refusesAny 448 = .ok (.iload_n 3, 1) := by decide +kernel
theorem dL_refusesAny_449 : decode cL_refusesAny 449 = .ok (.iconst 0, 1) := by decide +kernel
theorem dL_refusesAny_450 : decode cL_refusesAny 450 = .ok (.invokevirtual 44, 3) := by decide +kernel
theorem dL_refusesAny_453 : decode cL_refusesAny 453 = .ok (.iconst (-1), 1) := by decide +kernel
theorem dL_refusesAny_454 : decode cL_refusesAny 454 = .ok (.if_icmp .ne 210, 3) := by decide +kernel
theorem dL_refusesAny_457 : decode cL_refusesAny 457 = .ok (.aload_n 0, 1) := by decide +kernel
theorem dL_refusesAny_458 : decode cL_refusesAny 458 = .ok (.iconst 0, 1) := by decide +kernel
theorem dL_refusesAny_459 : decode cL_refusesAny 459 = .ok (.iload_n 2, 1) := by decide +kernel
theorem dL_refusesAny_460 : decode cL_refusesAny 460 = .ok (.invokevirtual 44, 3) := by decide +kernel
theorem dL_refusesAny_463 : decode cL_refusesAny 463 = .ok (.iconst (-1), 1) := by decide +kernel
theorem dL_refusesAny_464 : decode cL_refusesAny 464 = .ok (.if_icmp .ne 200, 3) := by decide +kernel
theorem dL_refusesAny_467 : decode cL_refusesAny 467 = .ok (.aload_n 0, 1) := by decide +kernel
theorem dL_refusesAny_468 : decode cL_refusesAny 468 = .ok (.iload_n 3, 1) := by decide +kernel
theorem dL_refusesAny_469 : decode cL_refusesAny 469 = .ok (.iconst 0, 1) := by decide +kernel
theorem dL_refusesAny_470 : decode cL_refusesAny 470 = .ok (.invokevirtual 20, 3) := by decide +kernel
theorem dL_refusesAny_473 : decode cL_refusesAny 473 = .ok (.iconst (-1), 1) := by decide +kernel
theorem dL_refusesAny_474 : decode cL_refusesAny 474 = .ok (.if_icmp .ne 190, 3) := by decide +kernel
theorem dL_refusesAny_477 : decode cL_refusesAny 477 = .ok (.aload_n 0, 1) := by decide +kernel
theorem dL_refusesAny_478 : decode cL_refusesAny 478 = .ok (.iconst 0, 1) := by decide +kernel
theorem dL_refusesAny_479 : decode cL_refusesAny 479 = .ok (.iload_n 2, 1) := by decide +kernel
theorem dL_refusesAny_480 : decode cL_refusesAny 480 = .ok (.invokevirtual 20, 3) := by decide +kernel
theorem dL_refusesAny_483 : decode cL_refusesAny 483 = .ok (.iconst (-1), 1) := by decide +kernel
theorem dL_refusesAny_484 : decode cL_refusesAny 484 = .ok (.if_icmp .ne 180, 3) := by decide +kernel
theorem dL_refusesAny_487 : decode cL_refusesAny 487 = .ok (.aload_n 0, 1) := by decide +kernel
theorem dL_refusesAny_488 : decode cL_refusesAny 488 = .ok (.iload_n 1, 1) := by decide +kernel
theorem dL_refusesAny_489 : decode cL_refusesAny 489 = .ok (.iconst 2, 1) := by decide +kernel
theorem dL_refusesAny_490 : decode cL_refusesAny 490 = .ok (.irem, 1) := by decide +kernel
theorem dL_refusesAny_491 : decode cL_refusesAny 491 = .ok (.ifCond .ne 7, 3) := by decide +kernel
theorem dL_refusesAny_494 : decode cL_refusesAny 494 = .ok (.iconst (-1), 1) := by decide +kernel
theorem dL_refusesAny_495 : decode cL_refusesAny 495 = .ok (.goto 5, 3) := by decide +kernel
theorem dL_refusesAny_498 : decode cL_refusesAny 498 = .ok (.bipush 16, 2) := by decide +kernel
theorem dL_refusesAny_500 : decode cL_refusesAny 500 = .ok (.invokevirtual 14, 3) := by decide +kernel
theorem dL_refusesAny_503 : decode cL_refusesAny 503 = .ok (.bipush (-2), 2) := by decide +kernel
theorem dL_refusesAny_505 : decode cL_refusesAny 505 = .ok (.if_icmp .ne 159, 3) := by decide +kernel
theorem dL_refusesAny_508 : decode cL_refusesAny 508 = .ok (.aload_n 0, 1) := by decide +kernel
theorem dL_refusesAny_509 : decode cL_refusesAny 509 = .ok (.iload_n 3, 1) := by decide +kernel
theorem dL_refusesAny_510 : decode cL_refusesAny 510 = .ok (.iconst 0, 1) := by decide +kernel
theorem dL_refusesAny_511 : decode cL_refusesAny 511 = .ok (.iconst 0, 1) := by decide +kernel
theorem dL_refusesAny_512 : decode cL_refusesAny 512 = .ok (.bipush 9, 2) := by decide +kernel
theorem dL_refusesAny_514 : decode cL_refusesAny 514 = .ok (.invokevirtual 72, 3) := by decide +kernel
theorem dL_refusesAny_517 : decode cL_refusesAny 517 = .ok (.iconst (-1), 1) := by decide +kernel
theorem dL_refusesAny_518 : decode cL_refusesAny 518 = .ok (.if_icmp .ne 146, 3) := by decide +kernel
theorem dL_refusesAny_521 : decode cL_refusesAny 521 = .ok (.aload_n 0, 1) := by decide +kernel
theorem dL_refusesAny_522 : decode cL_refusesAny 522 = .ok (.iconst 0, 1) := by decide +kernel
theorem dL_refusesAny_523 : decode cL_refusesAny 523 = .ok (.iload_n 2, 1) := by decide +kernel
theorem dL_refusesAny_524 : decode cL_refusesAny 524 = .ok (.iconst 0, 1) := by decide +kernel
theorem dL_refusesAny_525 : decode cL_refusesAny 525 = .ok (.bipush 9, 2) := by decide +kernel
theorem dL_refusesAny_527 : decode cL_refusesAny 527 = .ok (.invokevirtual 72, 3) := by decide +kernel
theorem dL_refusesAny_530 : decode cL_refusesAny 530 = .ok (.iconst (-1), 1) := by decide +kernel
theorem dL_refusesAny_531 : decode cL_refusesAny 531 = .ok (.if_icmp .ne 133, 3) := by decide +kernel
theorem dL_refusesAny_534 : decode cL_refusesAny 534 = .ok (.aload_n 0, 1) := by decide +kernel
theorem dL_refusesAny_535 : decode cL_refusesAny 535 = .ok (.iconst 0, 1) := by decide +kernel
theorem dL_refusesAny_536 : decode cL_refusesAny 536 = .ok (.iconst 0, 1) := by decide +kernel
theorem dL_refusesAny_537 : decode cL_refusesAny 537 = .ok (.iload_n 2, 1) := by decide +kernel
theorem dL_refusesAny_538 : decode cL_refusesAny 538 = .ok (.bipush 9, 2) := by decide +kernel
theorem dL_refusesAny_540 : decode cL_refusesAny 540 = .ok (.invokevirtual 72, 3) := by decide +kernel
theorem dL_refusesAny_543 : decode cL_refusesAny 543 = .ok (.iconst (-1), 1) := by decide +kernel
theorem dL_refusesAny_544 : decode cL_refusesAny 544 = .ok (.if_icmp .ne 120, 3) := by decide +kernel
theorem dL_refusesAny_547 : decode cL_refusesAny 547 = .ok (.aload_n 0, 1) := by decide +kernel
theorem dL_refusesAny_548 : decode cL_refusesAny 548 = .ok (.iconst 0, 1) := by decide +kernel
theorem dL_refusesAny_549 : decode cL_refusesAny 549 = .ok (.iconst 0, 1) := by decide +kernel
theorem dL_refusesAny_550 : decode cL_refusesAny 550 = .ok (.iconst 0, 1) := by decide +kernel
theorem dL_refusesAny_551 : decode cL_refusesAny 551 = .ok (.iload_n 1, 1) := by decide +kernel
theorem dL_refusesAny_552 : decode cL_refusesAny 552 = .ok (.iconst 2, 1) := by decide +kernel
theorem dL_refusesAny_553 : decode cL_refusesAny 553 = .ok (.irem, 1) := by decide +kernel
theorem dL_refusesAny_554 : decode cL_refusesAny 554 = .ok (.ifCond .ne 7, 3) := by decide +kernel
theorem dL_refusesAny_557 : decode cL_refusesAny 557 = .ok (.iconst (-1), 1) := by decide +kernel
theorem dL_refusesAny_558 : decode cL_refusesAny 558 = .ok (.goto 4, 3) := by decide +kernel
theorem dL_refusesAny_561 : decode cL_refusesAny 561 = .ok (.iconst 2, 1) := by decide +kernel
theorem dL_refusesAny_562 : decode cL_refusesAny 562 = .ok (.invokevirtual 72, 3) := by decide +kernel
theorem dL_refusesAny_565 : decode cL_refusesAny 565 = .ok (.bipush (-2), 2) := by decide +kernel
theorem dL_refusesAny_567 : decode cL_refusesAny 567 = .ok (.if_icmp .ne 97, 3) := by decide +kernel
theorem dL_refusesAny_570 : decode cL_refusesAny 570 = .ok (.aload_n 0, 1) := by decide +kernel
theorem dL_refusesAny_571 : decode cL_refusesAny 571 = .ok (.iload_n 2, 1) := by decide +kernel
theorem dL_refusesAny_572 : decode cL_refusesAny 572 = .ok (.invokevirtual 35, 3) := by decide +kernel
theorem dL_refusesAny_575 : decode cL_refusesAny 575 = .ok (.iconst (-1), 1) := by decide +kernel
theorem dL_refusesAny_576 : decode cL_refusesAny 576 = .ok (.if_icmp .ne 88, 3) := by decide +kernel
theorem dL_refusesAny_579 : decode cL_refusesAny 579 = .ok (.aload_n 0, 1) := by decide +kernel
theorem dL_refusesAny_580 : decode cL_refusesAny 580 = .ok (.iload_n 3, 1) := by decide +kernel
theorem dL_refusesAny_581 : decode cL_refusesAny 581 = .ok (.invokevirtual 38, 3) := by decide +kernel
theorem dL_refusesAny_584 : decode cL_refusesAny 584 = .ok (.iconst (-1), 1) := by decide +kernel
theorem dL_refusesAny_585 : decode cL_refusesAny 585 = .ok (.if_icmp .ne 79, 3) := by decide +kernel
theorem dL_refusesAny_588 : decode cL_refusesAny 588 = .ok (.aload_n 0, 1) := by decide +kernel
theorem dL_refusesAny_589 : decode cL_refusesAny 589 = .ok (.iload_n 3, 1) := by decide +kernel
theorem dL_refusesAny_590 : decode cL_refusesAny 590 = .ok (.bipush 9, 2) := by decide +kernel
theorem dL_refusesAny_592 : decode cL_refusesAny 592 = .ok (.invokevirtual 41, 3) := by decide +kernel
theorem dL_refusesAny_595 : decode cL_refusesAny 595 = .ok (.iconst (-1), 1) := by decide +kernel
theorem dL_refusesAny_596 : decode cL_refusesAny 596 = .ok (.if_icmp .ne 68, 3) := by decide +kernel
theorem dL_refusesAny_599 : decode cL_refusesAny 599 = .ok (.aload_n 0, 1) := by decide +kernel
theorem dL_refusesAny_600 : decode cL_refusesAny 600 = .ok (.iconst 0, 1) := by decide +kernel
theorem dL_refusesAny_601 : decode cL_refusesAny 601 = .ok (.iload_n 1, 1) := by decide +kernel
theorem dL_refusesAny_602 : decode cL_refusesAny 602 = .ok (.iconst 2, 1) := by decide +kernel
theorem dL_refusesAny_603 : decode cL_refusesAny 603 = .ok (.irem, 1) := by decide +kernel
theorem dL_refusesAny_604 : decode cL_refusesAny 604 = .ok (.ifCond .ne 7, 3) := by decide +kernel
theorem dL_refusesAny_607 : decode cL_refusesAny 607 = .ok (.iconst (-1), 1) := by decide +kernel
theorem dL_refusesAny_608 : decode cL_refusesAny 608 = .ok (.goto 4, 3) := by decide +kernel
theorem dL_refusesAny_611 : decode cL_refusesAny 611 = .ok (.iconst 2, 1) := by decide +kernel
theorem dL_refusesAny_612 : decode cL_refusesAny 612 = .ok (.invokevirtual 41, 3) := by decide +kernel
theorem dL_refusesAny_615 : decode cL_refusesAny 615 = .ok (.bipush (-2), 2) := by decide +kernel
theorem dL_refusesAny_617 : decode cL_refusesAny 617 = .ok (.if_icmp .ne 47, 3) := by decide +kernel
theorem dL_refusesAny_620 : decode cL_refusesAny 620 = .ok (.aload_n 0, 1) := by decide +kernel
theorem dL_refusesAny_621 : decode cL_refusesAny 621 = .ok (.iload_n 1, 1) := by decide +kernel
theorem dL_refusesAny_622 : decode cL_refusesAny 622 = .ok (.iconst 2, 1) := by decide +kernel
theorem dL_refusesAny_623 : decode cL_refusesAny 623 = .ok (.irem, 1) := by decide +kernel
theorem dL_refusesAny_624 : decode cL_refusesAny 624 = .ok (.ifCond .ne 7, 3) := by decide +kernel
theorem dL_refusesAny_627 : decode cL_refusesAny 627 = .ok (.iconst (-1), 1) := by decide +kernel
theorem dL_refusesAny_628 : decode cL_refusesAny 628 = .ok (.goto 4, 3) := by decide +kernel
theorem dL_refusesAny_631 : decode cL_refusesAny 631 = .ok (.iconst 2, 1) := by decide +kernel
theorem dL_refusesAny_632 : decode cL_refusesAny 632 = .ok (.invokevirtual 76, 3) := by decide +kernel
theorem dL_refusesAny_635 : decode cL_refusesAny 635 = .ok (.bipush (-2), 2) := by decide +kernel
theorem dL_refusesAny_637 : decode cL_refusesAny 637 = .ok (.if_icmp .ne 27, 3) := by decide +kernel
theorem dL_refusesAny_640 : decode cL_refusesAny 640 = .ok (.aload_n 0, 1) := by decide +kernel
theorem dL_refusesAny_641 : decode cL_refusesAny 641 = .ok (.iload_n 1, 1) := by decide +kernel
theorem dL_refusesAny_642 : decode cL_refusesAny 642 = .ok (.iconst 2, 1) := by decide +kernel
theorem dL_refusesAny_643 : decode cL_refusesAny 643 = .ok (.irem, 1) := by decide +kernel
theorem dL_refusesAny_644 : decode cL_refusesAny 644 = .ok (.ifCond .ne 7, 3) := by decide +kernel
theorem dL_refusesAny_647 : decode cL_refusesAny 647 = .ok (.iconst (-1), 1) := by decide +kernel
theorem dL_refusesAny_648 : decode cL_refusesAny 648 = .ok (.goto 4, 3) := by decide +kernel
theorem dL_refusesAny_651 : decode cL_refusesAny 651 = .ok (.iconst 2, 1) := by decide +kernel
theorem dL_refusesAny_652 : decode cL_refusesAny 652 = .ok (.invokevirtual 79, 3) := by decide +kernel
theorem dL_refusesAny_655 : decode cL_refusesAny 655 = .ok (.bipush (-2), 2) := by decide +kernel
theorem dL_refusesAny_657 : decode cL_refusesAny 657 = .ok (.if_icmp .ne 7, 3) := by decide +kernel
theorem dL_refusesAny_660 : decode cL_refusesAny 660 = .ok (.iconst 1, 1) := by decide +kernel
theorem dL_refusesAny_661 : decode cL_refusesAny 661 = .ok (.goto 4, 3) := by decide +kernel
theorem dL_refusesAny_664 : decode cL_refusesAny 664 = .ok (.iconst 0, 1) := by decide +kernel
theorem dL_refusesAny_665 : decode cL_refusesAny 665 = .ok (.istore 6, 2) := by decide +kernel
theorem dL_refusesAny_667 : decode cL_refusesAny 667 = .ok (.iload 6, 2) := by decide +kernel
theorem dL_refusesAny_669 : decode cL_refusesAny 669 = .ok (.ifCond .eq 30, 3) := by decide +kernel
theorem dL_refusesAny_672 : decode cL_refusesAny 672 = .ok (.aload_n 0, 1) := by decide +kernel
theorem dL_refusesAny_673 : decode cL_refusesAny 673 = .ok (.invokevirtual 82, 3) := by decide +kernel
theorem dL_refusesAny_676 : decode cL_refusesAny 676 = .ok (.ifCond .ne 23, 3) := by decide +kernel
theorem dL_refusesAny_679 : decode cL_refusesAny 679 = .ok (.aload_n 0, 1) := by decide +kernel
theorem dL_refusesAny_680 : decode cL_refusesAny 680 = .ok (.invokevirtual 86, 3) := by decide +kernel
theorem dL_refusesAny_683 : decode cL_refusesAny 683 = .ok (.bipush (-3), 2) := by decide +kernel
theorem dL_refusesAny_685 : decode cL_refusesAny 685 = .ok (.if_icmp .ne 14, 3) := by decide +kernel
theorem dL_refusesAny_688 : decode cL_refusesAny 688 = .ok (.aload_n 0, 1) := by decide +kernel
theorem dL_refusesAny_689 : decode cL_refusesAny 689 = .ok (.invokevirtual 89, 3) := by decide +kernel
theorem dL_refusesAny_692 : decode cL_refusesAny 692 = .ok (.ifCond .ne 7, 3) := by decide +kernel
theorem dL_refusesAny_695 : decode cL_refusesAny 695 = .ok (.iconst 1, 1) := by decide +kernel
theorem dL_refusesAny_696 : decode cL_refusesAny 696 = .ok (.goto 4, 3) := by decide +kernel
theorem dL_refusesAny_699 : decode cL_refusesAny 699 = .ok (.iconst 0, 1) := by decide +kernel
theorem dL_refusesAny_700 : decode cL_refusesAny 700 = .ok (.ireturn, 1) := by decide +kernel
