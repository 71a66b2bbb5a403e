set_option maxRecDepth 20000 in
theorem ggX4_init_X3_init : GoodIn wsX4_init wsX3_init := goodIn_r _ [22, 23, 2, 3, 24, 25, 26, 27, 28, 29, 30, 31, 32, 33, 55, 56, 57, 58, 59, 60, 61, 62, 63, 64, 65, 66, 67, 68, 69] (by decide +kernel) (by decide +kernel)
set_option maxRecDepth 20000 in
theorem gX4_init_X3_init : GoodIn wsX4_init (wsX3_init) := ggX4_init_X3_init
set_option maxRecDepth 20000 in
theorem ggX4_init_X1_init : GoodIn wsX4_init wsX1_init := goodIn_r _ [35, 36, 2, 3, 37, 38, 74, 75] (by decide +kernel) (by decide +kernel)
set_option maxRecDepth 20000 in
theorem gX4_init_X1_init_n18 : GoodIn wsX4_init (wsX1_init) := ggX4_init_X1_init
set_option maxRecDepth 20000 in
theorem ggX4_init_X0_init : GoodIn wsX4_init wsX0_init := goodIn_r _ [41, 42, 2, 3, 43, 44, 5, 6, 45, 21, 22, 23, 24, 25, 26, 27, 28, 29, 30, 31, 32, 33, 76, 77, 55, 56, 57, 58, 59, 60, 61, 62, 63, 64, 65, 66, 67, 68, 69] (by decide +kernel) (by decide +kernel)
set_option maxRecDepth 20000 in
theorem gX4_init_X0_init : GoodIn wsX4_init (wsX0_init) := ggX4_init_X0_init
set_option maxRecDepth 20000 in
theorem ggX4_init_X2_init : GoodIn wsX4_init wsX2_init := goodIn_r _ [48, 49, 2, 3, 50, 51, 52, 53, 5, 6, 54, 21, 22, 23, 24, 25, 26, 27, 28, 29, 30, 31, 32, 33, 78, 79, 55, 56, 57, 58, 59, 60, 61, 62, 63, 64, 65, 66, 67, 68, 69] (by decide +kernel) (by decide +kernel)
set_option maxRecDepth 20000 in
theorem gX4_init_X2_init : GoodIn wsX4_init (wsX2_init) := ggX4_init_X2_init
theorem dX4_init_0 : decode cX4_init 0 = .ok (.aload_n 0, 1) := by decide +kernel
theorem dX4_init_1 : decode cX4_init 1 = .ok (.invokespecial 1, 3) := by decide +kernel
theorem dX4_init_4 : decode cX4_init 4 = .ok (.aload_n 0, 1) := by decide +kernel
theorem dX4_init_5 : decode cX4_init 5 = .ok (.new 7, 3) := by decide +kernel
theorem dX4_init_8 : decode cX4_init 8 = .ok (.dup, 1) := by decide +kernel
theorem dX4_init_9 : decode cX4_init 9 = .ok (.invokespecial 9, 3) := by decide +kernel
theorem dX4_init_12 : decode cX4_init 12 = .ok (.putfield 10, 3) := by decide +kernel
theorem dX4_init_15 : decode cX4_init 15 = .ok (.aload_n 0, 1) := by decide +kernel
theorem dX4_init_16 : decode cX4_init 16 = .ok (.new 16, 3) := by decide +kernel
theorem dX4_init_19 : decode cX4_init 19 = .ok (.dup, 1) := by decide +kernel
theorem dX4_init_20 : decode cX4_init 20 = .ok (.invokespecial 18, 3) := by decide +kernel
theorem dX4_init_23 : decode cX4_init 23 = .ok (.putfield 19, 3) := by decide +kernel
theorem dX4_init_26 : decode cX4_init 26 = .ok (.aload_n 0, 1) := by decide +kernel
theorem dX4_init_27 : decode cX4_init 27 = .ok (.new 23, 3) := by decide +kernel
theorem dX4_init_30 : decode cX4_init 30 = .ok (.dup, 1) := by decide +kernel
theorem dX4_init_31 : decode cX4_init 31 = .ok (.invokespecial 25, 3) := by decide +kernel
theorem dX4_init_34 : decode cX4_init 34 = .ok (.putfield 26, 3) := by decide +kernel
theorem dX4_init_37 : decode cX4_init 37 = .ok (.aload_n 0, 1) := by decide +kernel
theorem dX4_init_38 : decode cX4_init 38 = .ok (.new 30, 3) := by decide +kernel
theorem dX4_init_41 : decode cX4_init 41 = .ok (.dup, 1) := by decide +kernel
theorem dX4_init_42 : decode cX4_init 42 = .ok (.invokespecial 32, 3) := by decide +kernel
theorem dX4_init_45 : decode cX4_init 45 = .ok (.putfield 33, 3) := by decide +kernel
theorem dX4_init_48 : decode cX4_init 48 = .ok (.return_, 1) := by decide +kernel
set_option maxRecDepth 20000 in
theorem ggX4_set_X0_record : GoodIn wsX4_set wsX0_record := goodIn_r _ [10, 11, 12, 13, 14, 15, 9, 16, 17, 18, 19, 20, 21, 22, 23, 24, 25, 26, 27, 28, 29, 30, 31, 32, 33, 34, 35, 36, 37, 38, 39, 59, 60, 44, 45, 46, 47, 48, 49, 50, 51, 52, 53, 54, 55, 56, 57, 58] (by decide +kernel) (by decide +kernel)
set_option maxRecDepth 20000 in
theorem gX4_set_X0_record : GoodIn wsX4_set (wsV RX4 44 RX0 yX0_record wsX0_record) := goodIn_app (goodIn_of _ (by decide +kernel)) ggX4_set_X0_record
theorem dX4_set_0 : decode cX4_set 0 = .ok (.iload_n 1, 1) := by decide +kernel
theorem dX4_set_1 : decode cX4_set 1 = .ok (.ifCond .lt 8, 3) := by decide +kernel
theorem dX4_set_4 : decode cX4_set 4 = .ok (.iload_n 1, 1) := by decide +kernel
theorem dX4_set_5 : decode cX4_set 5 = .ok (.iconst 4, 1) := by decide +kernel
theorem dX4_set_6 : decode cX4_set 6 = .ok (.if_icmp .lt 6, 3) := by decide +kernel
theorem dX4_set_9 : decode cX4_set 9 = .ok (.bipush (-2), 2) := by decide +kernel
theorem dX4_set_11 : decode cX4_set 11 = .ok (.ireturn, 1) := by decide +kernel
theorem dX4_set_12 : decode cX4_set 12 = .ok (.iload_n 2, 1) := by decide +kernel
theorem dX4_set_13 : decode cX4_set 13 = .ok (.getstatic 37, 3) := by decide +kernel
theorem dX4_set_16 : decode cX4_set 16 = .ok (.iload_n 1, 1) := by decide +kernel
theorem dX4_set_17 : decode cX4_set 17 = .ok (.iaload, 1) := by decide +kernel
theorem dX4_set_18 : decode cX4_set 18 = .ok (.if_icmp .lt 12, 3) := by decide +kernel
theorem dX4_set_21 : decode cX4_set 21 = .ok (.iload_n 2, 1) := by decide +kernel
theorem dX4_set_22 : decode cX4_set 22 = .ok (.getstatic 41, 3) := by decide +kernel
theorem dX4_set_25 : decode cX4_set 25 = .ok (.iload_n 1, 1) := by decide +kernel
theorem dX4_set_26 : decode cX4_set 26 = .ok (.iaload, 1) := by decide +kernel
theorem dX4_set_27 : decode cX4_set 27 = .ok (.if_icmp .le 6, 3) := by decide +kernel
theorem dX4_set_30 : decode cX4_set 30 = .ok (.bipush (-2), 2) := by decide +kernel
theorem dX4_set_32 : decode cX4_set 32 = .ok (.ireturn, 1) := by decide +kernel
theorem dX4_set_33 : decode cX4_set 33 = .ok (.aload_n 0, 1) := by decide +kernel
theorem dX4_set_34 : decode cX4_set 34 = .ok (.getfield 26, 3) := by decide +kernel
theorem dX4_set_37 : decode cX4_set 37 = .ok (.aload_n 0, 1) := by decide +kernel
theorem dX4_set_38 : decode cX4_set 38 = .ok (.getfield 10, 3) := by decide +kernel
theorem dX4_set_41 : decode cX4_set 41 = .ok (.invokevirtual 44, 3) := by decide +kernel
theorem dX4_set_44 : decode cX4_set 44 = .ok (.aload_n 0, 1) := by decide +kernel
theorem dX4_set_45 : decode cX4_set 45 = .ok (.getfield 10, 3) := by decide +kernel
theorem dX4_set_48 : decode cX4_set 48 = .ok (.getfield 48, 3) := by decide +kernel
theorem dX4_set_51 : decode cX4_set 51 = .ok (.iload_n 1, 1) := by decide +kernel
theorem dX4_set_52 : decode cX4_set 52 = .ok (.iaload, 1) := by decide +kernel
theorem dX4_set_53 : decode cX4_set 53 = .ok (.istore_n 3, 1) := by decide +kernel
theorem dX4_set_54 : decode cX4_set 54 = .ok (.aload_n 0, 1) := by decide +kernel
theorem dX4_set_55 : decode cX4_set 55 = .ok (.getfield 10, 3) := by decide +kernel
theorem dX4_set_58 : decode cX4_set 58 = .ok (.getfield 48, 3) := by decide +kernel
theorem dX4_set_61 : decode cX4_set 61 = .ok (.iload_n 1, 1) := by decide +kernel
theorem dX4_set_62 : decode cX4_set 62 = .ok (.iload_n 2, 1) := by decide +kernel
theorem dX4_set_63 : decode cX4_set 63 = .ok (.iastore, 1) := by decide +kernel
theorem dX4_set_64 : decode cX4_set 64 = .ok (.iload_n 3, 1) := by decide +kernel
theorem dX4_set_65 : decode cX4_set 65 = .ok (.ireturn, 1) := by decide +kernel
set_option maxRecDepth 20000 in
theorem ggX4_brim_X4_isPuddle : GoodIn wsX4_brim wsX4_isPuddle := goodIn_r _ [7] (by decide +kernel) (by decide +kernel)
set_option maxRecDepth 20000 in
theorem gX4_brim_X4_isPuddle : GoodIn wsX4_brim (va_wsS RX4 51 yX4_isPuddle wsX4_isPuddle) := goodIn_app (goodIn_of _ (by decide +kernel)) ggX4_brim_X4_isPuddle
set_option maxRecDepth 20000 in
theorem ggX4_brim_X0_record : GoodIn wsX4_brim wsX0_record := goodIn_r _ [12, 13, 14, 15, 16, 17, 11, 18, 19, 20, 21, 22, 23, 24, 25, 26, 27, 28, 29, 30, 31, 32, 33, 34, 35, 36, 37, 38, 39, 6, 40, 64, 65, 49, 50, 51, 52, 53, 54, 55, 56, 57, 58, 59, 60, 61, 62, 63] (by decide +kernel) (by decide +kernel)
set_option maxRecDepth 20000 in
theorem gX4_brim_X0_record : GoodIn wsX4_brim (wsV RX4 44 RX0 yX0_record wsX0_record) := goodIn_app (goodIn_of _ (by decide +kernel)) ggX4_brim_X0_record
set_option maxRecDepth 20000 in
theorem ggX4_brim_X3_drainDownTo : GoodIn wsX4_brim wsX3_drainDownTo := goodIn_r _ [44, 26, 38, 49, 50, 51, 52, 53, 54, 55, 56, 57, 58, 59, 60, 61, 62, 63] (by decide +kernel) (by decide +kernel)
set_option maxRecDepth 20000 in
theorem gX4_brim_X3_drainDownTo : GoodIn wsX4_brim (wsV RX4 58 RX3 yX3_drainDownTo wsX3_drainDownTo) := goodIn_app (goodIn_of _ (by decide +kernel)) ggX4_brim_X3_drainDownTo
theorem dX4_brim_0 : decode cX4_brim 0 = .ok (.iload_n 1, 1) := by decide +kernel
theorem dX4_brim_1 : decode cX4_brim 1 = .ok (.invokestatic 51, 3) := by decide +kernel
theorem dX4_brim_4 : decode cX4_brim 4 = .ok (.ifCond .ne 5, 3) := by decide +kernel
theorem dX4_brim_7 : decode cX4_brim 7 = .ok (.iconst (-1), 1) := by decide +kernel
theorem dX4_brim_8 : decode cX4_brim 8 = .ok (.ireturn, 1) := by decide +kernel
theorem dX4_brim_9 : decode cX4_brim 9 = .ok (.iload_n 2, 1) := by decide +kernel
theorem dX4_brim_10 : decode cX4_brim 10 = .ok (.iconst 1, 1) := by decide +kernel
theorem dX4_brim_11 : decode cX4_brim 11 = .ok (.if_icmp .lt 9, 3) := by decide +kernel
theorem dX4_brim_14 : decode cX4_brim 14 = .ok (.iload_n 2, 1) := by decide +kernel
theorem dX4_brim_15 : decode cX4_brim 15 = .ok (.bipush 60, 2) := by decide +kernel
theorem dX4_brim_17 : decode cX4_brim 17 = .ok (.if_icmp .le 6, 3) := by decide +kernel
theorem dX4_brim_20 : decode cX4_brim 20 = .ok (.bipush (-2), 2) := by decide +kernel
theorem dX4_brim_22 : decode cX4_brim 22 = .ok (.ireturn, 1) := by decide +kernel
theorem dX4_brim_23 : decode cX4_brim 23 = .ok (.aload_n 0, 1) := by decide +kernel
theorem dX4_brim_24 : decode cX4_brim 24 = .ok (.getfield 26, 3) := by decide +kernel
theorem dX4_brim_27 : decode cX4_brim 27 = .ok (.aload_n 0, 1) := by decide +kernel
theorem dX4_brim_28 : decode cX4_brim 28 = .ok (.getfield 10, 3) := by decide +kernel
theorem dX4_brim_31 : decode cX4_brim 31 = .ok (.invokevirtual 44, 3) := by decide +kernel
theorem dX4_brim_34 : decode cX4_brim 34 = .ok (.aload_n 0, 1) := by decide +kernel
theorem dX4_brim_35 : decode cX4_brim 35 = .ok (.getfield 10, 3) := by decide +kernel
theorem dX4_brim_38 : decode cX4_brim 38 = .ok (.getfield 55, 3) := by decide +kernel
theorem dX4_brim_41 : decode cX4_brim 41 = .ok (.iload_n 1, 1) := by decide +kernel
theorem dX4_brim_42 : decode cX4_brim 42 = .ok (.iaload, 1) := by decide +kernel
theorem dX4_brim_43 : decode cX4_brim 43 = .ok (.istore_n 3, 1) := by decide +kernel
theorem dX4_brim_44 : decode cX4_brim 44 = .ok (.aload_n 0, 1) := by decide +kernel
theorem dX4_brim_45 : decode cX4_brim 45 = .ok (.getfield 10, 3) := by decide +kernel
theorem dX4_brim_48 : decode cX4_brim 48 = .ok (.getfield 55, 3) := by decide +kernel
theorem dX4_brim_51 : decode cX4_brim 51 = .ok (.iload_n 1, 1) := by decide +kernel
theorem dX4_brim_52 : decode cX4_brim 52 = .ok (.iload_n 2, 1) := by decide +kernel
theorem dX4_brim_53 : decode cX4_brim 53 = .ok (.iastore, 1) := by decide +kernel
theorem dX4_brim_54 : decode cX4_brim 54 = .ok (.aload_n 0, 1) := by decide +kernel
theorem dX4_brim_55 : decode cX4_brim 55 = .ok (.getfield 10, 3) := by decide +kernel
theorem dX4_brim_58 : decode cX4_brim 58 = .ok (.iload_n 1, 1) := by decide +kernel
theorem dX4_brim_59 : decode cX4_brim 59 = .ok (.iload_n 2, 1) := by decide +kernel
theorem dX4_brim_60 : decode cX4_brim 60 = .ok (.invokevirtual 58, 3) := by decide +kernel
theorem dX4_brim_63 : decode cX4_brim 63 = .ok (.iload_n 3, 1) := by decide +kernel
theorem dX4_brim_64 : decode cX4_brim 64 = .ok (.ireturn, 1) := by decide +kernel
set_option maxRecDepth 20000 in
theorem ggX4_drain_X4_isPuddle : GoodIn wsX4_drain wsX4_isPuddle := goodIn_r _ [7] (by decide +kernel) (by decide +kernel)
set_option maxRecDepth 20000 in
theorem gX4_drain_X4_isPuddle : GoodIn wsX4_drain (va_wsS RX4 51 yX4_isPuddle wsX4_isPuddle) := goodIn_app (goodIn_of _ (by decide +kernel)) ggX4_drain_X4_isPuddle
set_option maxRecDepth 20000 in
theorem ggX4_drain_X3_hasDucks : GoodIn wsX4_drain wsX3_hasDucks := goodIn_r _ [12, 13, 14, 6, 15, 59, 60, 61, 62, 63, 64, 65, 66, 67, 68, 69, 70, 71, 72, 73] (by decide +kernel) (by decide +kernel)
set_option maxRecDepth 20000 in
theorem gX4_drain_X3_hasDucks : GoodIn wsX4_drain (wsV RX4 62 RX3 yX3_hasDucks wsX3_hasDucks) := goodIn_app (goodIn_of _ (by decide +kernel)) ggX4_drain_X3_hasDucks
set_option maxRecDepth 20000 in
theorem ggX4_drain_X0_record : GoodIn wsX4_drain wsX0_record := goodIn_r _ [20, 21, 22, 23, 24, 25, 19, 26, 27, 28, 29, 11, 30, 31, 32, 33, 34, 35, 36, 37, 38, 39, 40, 13, 41, 42, 43, 44, 45, 6, 46, 74, 75, 59, 60, 61, 62, 63, 64, 65, 66, 67, 68, 69, 70, 71, 72, 73] (by decide +kernel) (by decide +kernel)
set_option maxRecDepth 20000 in
theorem gX4_drain_X0_record : GoodIn wsX4_drain (wsV RX4 44 RX0 yX0_record wsX0_record) := goodIn_app (goodIn_of _ (by decide +kernel)) ggX4_drain_X0_record
set_option maxRecDepth 20000 in
theorem ggX4_drain_X3_drainDownTo : GoodIn wsX4_drain wsX3_drainDownTo := goodIn_r _ [50, 33, 44, 59, 60, 61, 62, 63, 64, 65, 66, 67, 68, 69, 70, 71, 72, 73] (by decide +kernel) (by decide +kernel)
set_option maxRecDepth 20000 in
theorem gX4_drain_X3_drainDownTo : GoodIn wsX4_drain (wsV RX4 58 RX3 yX3_drainDownTo wsX3_drainDownTo) := goodIn_app (goodIn_of _ (by decide +kernel)) ggX4_drain_X3_drainDownTo
set_option maxRecDepth 20000 in
theorem ggX4_drain_X3_thaw : GoodIn wsX4_drain wsX3_thaw := goodIn_r _ [54, 40, 59, 60, 61, 62, 63, 64, 65, 66, 67, 68, 69, 70, 71, 72, 73] (by decide +kernel) (by decide +kernel)
set_option maxRecDepth 20000 in
theorem gX4_drain_X3_thaw : GoodIn wsX4_drain (wsV RX4 68 RX3 yX3_thaw wsX3_thaw) := goodIn_app (goodIn_of _ (by decide +kernel)) ggX4_drain_X3_thaw
theorem dX4_drain_0 : decode cX4_drain 0 = .ok (.iload_n 1, 1) := by decide +kernel
theorem dX4_drain_1 : decode cX4_drain 1 = .ok (.invokestatic 51, 3) := by decide +kernel
theorem dX4_drain_4 : decode cX4_drain 4 = .ok (.ifCond .ne 5, 3) := by decide +kernel
theorem dX4_drain_7 : decode cX4_drain 7 = .ok (.iconst (-1), 1) := by decide +kernel
theorem dX4_drain_8 : decode cX4_drain 8 = .ok (.ireturn, 1) := by decide +kernel
theorem dX4_drain_9 : decode cX4_drain 9 = .ok (.aload_n 0, 1) := by decide +kernel
theorem dX4_drain_10 : decode cX4_drain 10 = .ok (.getfield 10, 3) := by decide +kernel
theorem dX4_drain_13 : decode cX4_drain 13 = .ok (.iload_n 1, 1) := by decide +kernel
theorem dX4_drain_14 : decode cX4_drain 14 = .ok (.invokevirtual 62, 3) := by decide +kernel
theorem dX4_drain_17 : decode cX4_drain 17 = .ok (.ifCond .eq 6, 3) := by decide +kernel
theorem dX4_drain_20 : decode cX4_drain 20 = .ok (.bipush (-5), 2) := by decide +kernel
theorem dX4_drain_22 : decode cX4_drain 22 = .ok (.ireturn, 1) := by decide +kernel
theorem dX4_drain_23 : decode cX4_drain 23 = .ok (.aload_n 0, 1) := by decide +kernel
theorem dX4_drain_24 : decode cX4_drain 24 = .ok (.getfield 26, 3) := by decide +kernel
theorem dX4_drain_27 : decode cX4_drain 27 = .ok (.aload_n 0, 1) := by decide +kernel
theorem dX4_drain_28 : decode cX4_drain 28 = .ok (.getfield 10, 3) := by decide +kernel
theorem dX4_drain_31 : decode cX4_drain 31 = .ok (.invokevirtual 44, 3) := by decide +kernel
theorem dX4_drain_34 : decode cX4_drain 34 = .ok (.aload_n 0, 1) := by decide +kernel
theorem dX4_drain_35 : decode cX4_drain 35 = .ok (.getfield 10, 3) := by decide +kernel
theorem dX4_drain_38 : decode cX4_drain 38 = .ok (.getfield 65, 3) := by decide +kernel
theorem dX4_drain_41 : decode cX4_drain 41 = .ok (.iload_n 1, 1) := by decide +kernel
theorem dX4_drain_42 : decode cX4_drain 42 = .ok (.iaload, 1) := by decide +kernel
theorem dX4_drain_43 : decode cX4_drain 43 = .ok (.istore_n 2, 1) := by decide +kernel
theorem dX4_drain_44 : decode cX4_drain 44 = .ok (.aload_n 0, 1) := by decide +kernel
theorem dX4_drain_45 : decode cX4_drain 45 = .ok (.getfield 10, 3) := by decide +kernel
theorem dX4_drain_48 : decode cX4_drain 48 = .ok (.iload_n 1, 1) := by decide +kernel
theorem dX4_drain_49 : decode cX4_drain 49 = .ok (.iconst 0, 1) := by decide +kernel
theorem dX4_drain_50 : decode cX4_drain 50 = .ok (.invokevirtual 58, 3) := by decide +kernel
theorem dX4_drain_53 : decode cX4_drain 53 = .ok (.aload_n 0, 1) := by decide +kernel
theorem dX4_drain_54 : decode cX4_drain 54 = .ok (.getfield 10, 3) := by decide +kernel
theorem dX4_drain_57 : decode cX4_drain 57 = .ok (.iload_n 1, 1) := by decide +kernel
theorem dX4_drain_58 : decode cX4_drain 58 = .ok (.invokevirtual 68, 3) := by decide +kernel
theorem dX4_drain_61 : decode cX4_drain 61 = .ok (.iload_n 2, 1) := by decide +kernel
theorem dX4_drain_62 : decode cX4_drain 62 = .ok (.ireturn, 1) := by decide +kernel
set_option maxRecDepth 20000 in
theorem ggX4_shoes_X4_isWalker : GoodIn wsX4_shoes wsX4_isWalker := goodIn_r _ [7] (by decide +kernel) (by decide +kernel)
set_option maxRecDepth 20000 in
theorem gX4_shoes_X4_isWalker : GoodIn wsX4_shoes (va_wsS RX4 72 yX4_isWalker wsX4_isWalker) := goodIn_app (goodIn_of _ (by decide +kernel)) ggX4_shoes_X4_isWalker
set_option maxRecDepth 20000 in
theorem ggX4_shoes_X0_record : GoodIn wsX4_shoes wsX0_record := goodIn_r _ [12, 13, 14, 15, 16, 17, 11, 18, 19, 20, 21, 22, 23, 24, 25, 26, 27, 28, 29, 30, 31, 32, 33, 34, 35, 36, 37, 38, 39, 6, 40, 60, 61, 45, 46, 47, 48, 49, 50, 51, 52, 53, 54, 55, 56, 57, 58, 59] (by decide +kernel) (by decide +kernel)
set_option maxRecDepth 20000 in
theorem gX4_shoes_X0_record : GoodIn wsX4_shoes (wsV RX4 44 RX0 yX0_record wsX0_record) := goodIn_app (goodIn_of _ (by decide +kernel)) ggX4_shoes_X0_record
theorem dX4_shoes_0 : decode cX4_shoes 0 = .ok (.iload_n 1, 1) := by decide +kernel
theorem dX4_shoes_1 : decode cX4_shoes 1 = .ok (.invokestatic 72, 3) := by decide +kernel
theorem dX4_shoes_4 : decode cX4_shoes 4 = .ok (.ifCond .ne 5, 3) := by decide +kernel
theorem dX4_shoes_7 : decode cX4_shoes 7 = .ok (.iconst (-1), 1) := by decide +kernel
theorem dX4_shoes_8 : decode cX4_shoes 8 = .ok (.ireturn, 1) := by decide +kernel
theorem dX4_shoes_9 : decode cX4_shoes 9 = .ok (.iload_n 2, 1) := by decide +kernel
theorem dX4_shoes_10 : decode cX4_shoes 10 = .ok (.ifCond .lt 8, 3) := by decide +kernel
theorem dX4_shoes_13 : decode cX4_shoes 13 = .ok (.iload_n 2, 1) := by decide +kernel
theorem dX4_shoes_14 : decode cX4_shoes 14 = .ok (.iconst 3, 1) := by decide +kernel
theorem dX4_shoes_15 : decode cX4_shoes 15 = .ok (.if_icmp .le 6, 3) := by decide +kernel
theorem dX4_shoes_18 : decode cX4_shoes 18 = .ok (.bipush (-2), 2) := by decide +kernel
theorem dX4_shoes_20 : decode cX4_shoes 20 = .ok (.ireturn, 1) := by decide +kernel
theorem dX4_shoes_21 : decode cX4_shoes 21 = .ok (.aload_n 0, 1) := by decide +kernel
theorem dX4_shoes_22 : decode cX4_shoes 22 = .ok (.getfield 26, 3) := by decide +kernel
theorem dX4_shoes_25 : decode cX4_shoes 25 = .ok (.aload_n 0, 1) := by decide +kernel
theorem dX4_shoes_26 : decode cX4_shoes 26 = .ok (.getfield 10, 3) := by decide +kernel
theorem dX4_shoes_29 : decode cX4_shoes 29 = .ok (.invokevirtual 44, 3) := by decide +kernel
theorem dX4_shoes_32 : decode cX4_shoes 32 = .ok (.aload_n 0, 1) := by decide +kernel
theorem dX4_shoes_33 : decode cX4_shoes 33 = .ok (.getfield 10, 3) := by decide +kernel
theorem dX4_shoes_36 : decode cX4_shoes 36 = .ok (.getfield 75, 3) := by decide +kernel
theorem dX4_shoes_39 : decode cX4_shoes 39 = .ok (.iload_n 1, 1) := by decide +kernel
theorem dX4_shoes_40 : decode cX4_shoes 40 = .ok (.iaload, 1) := by decide +kernel
theorem dX4_shoes_41 : decode cX4_shoes 41 = .ok (.istore_n 3, 1) := by decide +kernel
theorem dX4_shoes_42 : decode cX4_shoes 42 = .ok (.aload_n 0, 1) := by decide +kernel
theorem dX4_shoes_43 : decode cX4_shoes 43 = .ok (.getfield 10, 3) := by decide +kernel
theorem dX4_shoes_46 : decode cX4_shoes 46 = .ok (.getfield 75, 3) := by decide +kernel
theorem dX4_shoes_49 : decode cX4_shoes 49 = .ok (.iload_n 1, 1) := by decide +kernel
theorem dX4_shoes_50 : decode cX4_shoes 50 = .ok (.iload_n 2, 1) := by decide +kernel
theorem dX4_shoes_51 : decode cX4_shoes 51 = .ok (.iastore, 1) := by decide +kernel
theorem dX4_shoes_52 : decode cX4_shoes 52 = .ok (.iload_n 3, 1) := by decide +kernel
theorem dX4_shoes_53 : decode cX4_shoes 53 = .ok (.ireturn, 1) := by decide +kernel
set_option maxRecDepth 20000 in
theorem ggX4_permit_X4_isWalker : GoodIn wsX4_permit wsX4_isWalker := goodIn_r _ [8] (by decide +kernel) (by decide +kernel)
set_option maxRecDepth 20000 in
theorem gX4_permit_X4_isWalker : GoodIn wsX4_permit (va_wsS RX4 72 yX4_isWalker wsX4_isWalker) := goodIn_app (goodIn_of _ (by decide +kernel)) ggX4_permit_X4_isWalker
set_option maxRecDepth 20000 in
theorem ggX4_permit_X4_isPuddle : GoodIn wsX4_permit wsX4_isPuddle := goodIn_r _ [11] (by decide +kernel) (by decide +kernel)
set_option maxRecDepth 20000 in
theorem gX4_permit_X4_isPuddle : GoodIn wsX4_permit (va_wsS RX4 51 yX4_isPuddle wsX4_isPuddle) := goodIn_app (goodIn_of _ (by decide +kernel)) ggX4_permit_X4_isPuddle
set_option maxRecDepth 20000 in
theorem ggX4_permit_X3_hasDucks : GoodIn wsX4_permit wsX3_hasDucks := goodIn_r _ [16, 17, 18, 7, 19, 73, 74, 75, 76, 77, 78, 79, 80, 81, 82, 83, 84, 85, 86, 87] (by decide +kernel) (by decide +kernel)
set_option maxRecDepth 20000 in
theorem gX4_permit_X3_hasDucks : GoodIn wsX4_permit (wsV RX4 62 RX3 yX3_hasDucks wsX3_hasDucks) := goodIn_app (goodIn_of _ (by decide +kernel)) ggX4_permit_X3_hasDucks
set_option maxRecDepth 20000 in
theorem ggX4_permit_X0_record : GoodIn wsX4_permit wsX0_record := goodIn_r _ [24, 25, 26, 27, 28, 29, 23, 30, 31, 32, 33, 15, 34, 35, 36, 37, 38, 39, 40, 41, 42, 43, 44, 17, 45, 46, 47, 48, 49, 7, 50, 88, 89, 73, 74, 75, 76, 77, 78, 79, 80, 81, 82, 83, 84, 85, 86, 87] (by decide +kernel) (by decide +kernel)
set_option maxRecDepth 20000 in
theorem gX4_permit_X0_record : GoodIn wsX4_permit (wsV RX4 44 RX0 yX0_record wsX0_record) := goodIn_app (goodIn_of _ (by decide +kernel)) ggX4_permit_X0_record
set_option maxRecDepth 20000 in
theorem ggX4_permit_X4_placeOf : GoodIn wsX4_permit wsX4_placeOf := goodIn_r _ [53] (by decide +kernel) (by decide +kernel)
set_option maxRecDepth 20000 in
theorem gX4_permit_X4_placeOf : GoodIn wsX4_permit (va_wsS RX4 81 yX4_placeOf wsX4_placeOf) := goodIn_app (goodIn_of _ (by decide +kernel)) ggX4_permit_X4_placeOf
set_option maxRecDepth 20000 in
theorem ggX4_permit_X3_permitsOf : GoodIn wsX4_permit wsX3_permitsOf := goodIn_r _ [57, 58, 59, 60, 15, 61, 43, 52, 7, 53, 73, 74, 75, 76, 77, 78, 79, 80, 81, 82, 83, 84, 85, 86, 87] (by decide +kernel) (by decide +kernel)
set_option maxRecDepth 20000 in
theorem gX4_permit_X3_permitsOf : GoodIn wsX4_permit (wsV RX4 85 RX3 yX3_permitsOf wsX3_permitsOf) := goodIn_app (goodIn_of _ (by decide +kernel)) ggX4_permit_X3_permitsOf
set_option maxRecDepth 20000 in
theorem ggX4_permit_J6_bitCount_0f7a4 : GoodIn wsX4_permit wsJ6_bitCount_0f7a4 := goodIn_r _ [65, 66, 67, 68] (by decide +kernel) (by decide +kernel)
set_option maxRecDepth 20000 in
theorem gX4_permit_J6_bitCount_0f7a4 : GoodIn wsX4_permit (va_wsS RX4 89 yJ6_bitCount_0f7a4 wsJ6_bitCount_0f7a4) := goodIn_app (goodIn_of _ (by decide +kernel)) ggX4_permit_J6_bitCount_0f7a4
theorem dX4_permit_0 : decode cX4_permit 0 = .ok (.iload_n 1, 1) := by decide +kernel
theorem dX4_permit_1 : decode cX4_permit 1 = .ok (.invokestatic 72, 3) := by decide +kernel
theorem dX4_permit_4 : decode cX4_permit 4 = .ok (.ifCond .eq 10, 3) := by decide +kernel
theorem dX4_permit_7 : decode cX4_permit 7 = .ok (.iload_n 2, 1) := by decide +kernel
theorem dX4_permit_8 : decode cX4_permit 8 = .ok (.invokestatic 51, 3) := by decide +kernel
theorem dX4_permit_11 : decode cX4_permit 11 = .ok (.ifCond .ne 5, 3) := by decide +kernel
theorem dX4_permit_14 : decode cX4_permit 14 = .ok (.iconst (-1), 1) := by decide +kernel
theorem dX4_permit_15 : decode cX4_permit 15 = .ok (.ireturn, 1) := by decide +kernel
theorem dX4_permit_16 : decode cX4_permit 16 = .ok (.aload_n 0, 1) := by decide +kernel
theorem dX4_permit_17 : decode cX4_permit 17 = .ok (.getfield 10, 3) := by decide +kernel
theorem dX4_permit_20 : decode cX4_permit 20 = .ok (.iload_n 2, 1) := by decide +kernel
theorem dX4_permit_21 : decode cX4_permit 21 = .ok (.invokevirtual 62, 3) := by decide +kernel
theorem dX4_permit_24 : decode cX4_permit 24 = .ok (.ifCond .eq 6, 3) := by decide +kernel
theorem dX4_permit_27 : decode cX4_permit 27 = .ok (.bipush (-5), 2) := by decide +kernel
theorem dX4_permit_29 : decode cX4_permit 29 = .ok (.ireturn, 1) := by decide +kernel
theorem dX4_permit_30 : decode cX4_permit 30 = .ok (.aload_n 0, 1) := by decide +kernel
theorem dX4_permit_31 : decode cX4_permit 31 = .ok (.getfield 26, 3) := by decide +kernel
theorem dX4_permit_34 : decode cX4_permit 34 = .ok (.aload_n 0, 1) := by decide +kernel
theorem dX4_permit_35 : decode cX4_permit 35 = .ok (.getfield 10, 3) := by decide +kernel
theorem dX4_permit_38 : decode cX4_permit 38 = .ok (.invokevirtual 44, 3) := by decide +kernel
theorem dX4_permit_41 : decode cX4_permit 41 = .ok (.aload_n 0, 1) := by decide +kernel
theorem dX4_permit_42 : decode cX4_permit 42 = .ok (.getfield 10, 3) := by decide +kernel
theorem dX4_permit_45 : decode cX4_permit 45 = .ok (.getfield 78, 3) := by decide +kernel
theorem dX4_permit_48 : decode cX4_permit 48 = .ok (.iload_n 1, 1) := by decide +kernel
theorem dX4_permit_49 : decode cX4_permit 49 = .ok (.iload_n 2, 1) := by decide +kernel
theorem dX4_permit_50 : decode cX4_permit 50 = .ok (.invokestatic 81, 3) := by decide +kernel
theorem dX4_permit_53 : decode cX4_permit 53 = .ok (.aload_n 0, 1) := by decide +kernel
theorem dX4_permit_54 : decode cX4_permit 54 = .ok (.getfield 10, 3) := by decide +kernel
theorem dX4_permit_57 : decode cX4_permit 57 = .ok (.getfield 48, 3) := by decide +kernel
theorem dX4_permit_60 : decode cX4_permit 60 = .ok (.iconst 3, 1) := by decide +kernel
theorem dX4_permit_61 : decode cX4_permit 61 = .ok (.iaload, 1) := by decide +kernel
theorem dX4_permit_62 : decode cX4_permit 62 = .ok (.iastore, 1) := by decide +kernel
theorem dX4_permit_63 : decode cX4_permit 63 = .ok (.aload_n 0, 1) := by decide +kernel
theorem dX4_permit_64 : decode cX4_permit 64 = .ok (.getfield 10, 3) := by decide +kernel
theorem dX4_permit_67 : decode cX4_permit 67 = .ok (.iload_n 1, 1) := by decide +kernel
theorem dX4_permit_68 : decode cX4_permit 68 = .ok (.invokevirtual 85, 3) := by decide +kernel
theorem dX4_permit_71 : decode cX4_permit 71 = .ok (.invokestatic 89, 3) := by decide +kernel
theorem dX4_permit_74 : decode cX4_permit 74 = .ok (.ireturn, 1) := by decide +kernel
set_option maxRecDepth 20000 in
theorem ggX4_walk_X4_isWalker : GoodIn wsX4_walk wsX4_isWalker := goodIn_r _ [6] (by decide +kernel) (by decide +kernel)
set_option maxRecDepth 20000 in
theorem gX4_walk_X4_isWalker : GoodIn wsX4_walk (va_wsS RX4 72 yX4_isWalker wsX4_isWalker) := goodIn_app (goodIn_of _ (by decide +kernel)) ggX4_walk_X4_isWalker
set_option maxRecDepth 20000 in
theorem ggX4_walk_X4_isPuddle : GoodIn wsX4_walk wsX4_isPuddle := goodIn_r _ [9] (by decide +kernel) (by decide +kernel)
set_option maxRecDepth 20000 in
theorem gX4_walk_X4_isPuddle : GoodIn wsX4_walk (va_wsS RX4 51 yX4_isPuddle wsX4_isPuddle) := goodIn_app (goodIn_of _ (by decide +kernel)) ggX4_walk_X4_isPuddle
set_option maxRecDepth 20000 in
theorem ggX4_walk_X0_record : GoodIn wsX4_walk wsX0_record := goodIn_r _ [14, 15, 16, 17, 18, 19, 13, 20, 21, 22, 23, 24, 25, 26, 27, 28, 29, 30, 31, 32, 33, 34, 35, 36, 37, 38, 39, 40, 41, 5, 42, 97, 98, 99, 100, 101, 102, 103, 104, 105, 106, 107, 108, 109, 110, 111, 112, 113] (by decide +kernel) (by decide +kernel)
set_option maxRecDepth 20000 in
theorem gX4_walk_X0_record : GoodIn wsX4_walk (wsV RX4 44 RX0 yX0_record wsX0_record) := goodIn_app (goodIn_of _ (by decide +kernel)) ggX4_walk_X0_record
set_option maxRecDepth 20000 in
theorem ggX4_walk_X3_stepsUntilBlocked : GoodIn wsX4_walk wsX3_stepsUntilBlocked := goodIn_r _ [46, 47, 48, 49, 50, 51, 5, 52, 53, 54, 55, 24, 56, 30, 57, 58, 59, 60, 61, 62, 63, 64, 36, 65, 66, 67, 68, 69, 70, 34, 71, 72, 73, 74, 75, 76, 28, 77, 78, 79, 80, 35, 81, 82, 83, 99, 100, 101, 102, 103, 104, 105, 106, 107, 108, 109, 110, 111, 112, 113] (by decide +kernel) (by decide +kernel)
set_option maxRecDepth 20000 in
theorem gX4_walk_X3_stepsUntilBlocked : GoodIn wsX4_walk (wsV RX4 94 RX3 yX3_stepsUntilBlocked wsX3_stepsUntilBlocked) := goodIn_app (goodIn_of _ (by decide +kernel)) ggX4_walk_X3_stepsUntilBlocked
set_option maxRecDepth 20000 in
theorem ggX4_walk_X4_placeAfter : GoodIn wsX4_walk wsX4_placeAfter := goodIn_r _ [52] (by decide +kernel) (by decide +kernel)
set_option maxRecDepth 20000 in
theorem gX4_walk_X4_placeAfter : GoodIn wsX4_walk (va_wsS RX4 98 yX4_placeAfter wsX4_placeAfter) := goodIn_app (goodIn_of _ (by decide +kernel)) ggX4_walk_X4_placeAfter
set_option maxRecDepth 20000 in
theorem ggX4_walk_X3_cross : GoodIn wsX4_walk wsX3_cross := goodIn_r _ [88, 31, 33, 29, 89, 90, 91, 24, 92, 26, 77, 78, 79, 80, 35, 65, 5, 66, 73, 74, 75, 76, 28, 99, 100, 101, 102, 103, 104, 105, 106, 107, 108, 109, 110, 111, 112, 113] (by decide +kernel) (by decide +kernel)
set_option maxRecDepth 20000 in
theorem gX4_walk_X3_cross : GoodIn wsX4_walk (wsV RX4 101 RX3 yX3_cross wsX3_cross) := goodIn_app (goodIn_of _ (by decide +kernel)) ggX4_walk_X3_cross
theorem dX4_walk_0 : decode cX4_walk 0 = .ok (.iload_n 1, 1) := by decide +kernel
theorem dX4_walk_1 : decode cX4_walk 1 = .ok (.invokestatic 72, 3) := by decide +kernel
theorem dX4_walk_4 : decode cX4_walk 4 = .ok (.ifCond .eq 17, 3) := by decide +kernel
theorem dX4_walk_7 : decode cX4_walk 7 = .ok (.iload_n 2, 1) := by decide +kernel
theorem dX4_walk_8 : decode cX4_walk 8 = .ok (.invokestatic 51, 3) := by decide +kernel
theorem dX4_walk_11 : decode cX4_walk 11 = .ok (.ifCond .eq 10, 3) := by decide +kernel
theorem dX4_walk_14 : decode cX4_walk 14 = .ok (.iload_n 3, 1) := by decide +kernel
theorem dX4_walk_15 : decode cX4_walk 15 = .ok (.invokestatic 51, 3) := by decide +kernel
theorem dX4_walk_18 : decode cX4_walk 18 = .ok (.ifCond .ne 5, 3) := by decide +kernel
theorem dX4_walk_21 : decode cX4_walk 21 = .ok (.iconst (-1), 1) := by decide +kernel
theorem dX4_walk_22 : decode cX4_walk 22 = .ok (.ireturn, 1) := by decide +kernel
theorem dX4_walk_23 : decode cX4_walk 23 = .ok (.aload_n 0, 1) := by decide +kernel
theorem dX4_walk_24 : decode cX4_walk 24 = .ok (.getfield 26, 3) := by decide +kernel
theorem dX4_walk_27 : decode cX4_walk 27 = .ok (.aload_n 0, 1) := by decide +kernel
theorem dX4_walk_28 : decode cX4_walk 28 = .ok (.getfield 10, 3) := by decide +kernel
theorem dX4_walk_31 : decode cX4_walk 31 = .ok (.invokevirtual 44, 3) := by decide +kernel
theorem dX4_walk_34 : decode cX4_walk 34 = .ok (.aload_n 0, 1) := by decide +kernel
theorem dX4_walk_35 : decode cX4_walk 35 = .ok (.getfield 10, 3) := by decide +kernel
theorem dX4_walk_38 : decode cX4_walk 38 = .ok (.iload_n 1, 1) := by decide +kernel
theorem dX4_walk_39 : decode cX4_walk 39 = .ok (.iload_n 2, 1) := by decide +kernel
theorem dX4_walk_40 : decode cX4_walk 40 = .ok (.iload_n 3, 1) := by decide +kernel
theorem dX4_walk_41 : decode cX4_walk 41 = .ok (.invokevirtual 94, 3) := by decide +kernel
theorem dX4_walk_44 : decode cX4_walk 44 = .ok (.istore 4, 2) := by decide +kernel
theorem dX4_walk_46 : decode cX4_walk 46 = .ok (.iconst 0, 1) := by decide +kernel
theorem dX4_walk_47 : decode cX4_walk 47 = .ok (.istore 5, 2) := by decide +kernel
theorem dX4_walk_49 : decode cX4_walk 49 = .ok (.iload 5, 2) := by decide +kernel
theorem dX4_walk_51 : decode cX4_walk 51 = .ok (.iload 4, 2) := by decide +kernel
theorem dX4_walk_53 : decode cX4_walk 53 = .ok (.if_icmp .ge 24, 3) := by decide +kernel
theorem dX4_walk_56 : decode cX4_walk 56 = .ok (.aload_n 0, 1) := by decide +kernel
theorem dX4_walk_57 : decode cX4_walk 57 = .ok (.getfield 10, 3) := by decide +kernel
theorem dX4_walk_60 : decode cX4_walk 60 = .ok (.iload_n 1, 1) := by decide +kernel
theorem dX4_walk_61 : decode cX4_walk 61 = .ok (.iload 5, 2) := by decide +kernel
theorem dX4_walk_63 : decode cX4_walk 63 = .ok (.iload_n 2, 1) := by decide +kernel
theorem dX4_walk_64 : decode cX4_walk 64 = .ok (.iload_n 3, 1) := by decide +kernel
theorem dX4_walk_65 : decode cX4_walk 65 = .ok (.invokestatic 98, 3) := by decide +kernel
theorem dX4_walk_68 : decode cX4_walk 68 = .ok (.invokevirtual 101, 3) := by decide +kernel
theorem dX4_walk_71 : decode cX4_walk 71 = .ok (.iinc 5 1, 3) := by decide +kernel
theorem dX4_walk_74 : decode cX4_walk 74 = .ok (.goto (-25), 3) := by decide +kernel
theorem dX4_walk_77 : decode cX4_walk 77 = .ok (.iload 4, 2) := by decide +kernel
theorem dX4_walk_79 : decode cX4_walk 79 = .ok (.ireturn, 1) := by decide +kernel
set_option maxRecDepth 20000 in
theorem ggX4_pay_X4_isWalker : GoodIn wsX4_pay wsX4_isWalker := goodIn_r _ [8] (by decide +kernel) (by decide +kernel)
set_option maxRecDepth 20000 in
theorem gX4_pay_X4_isWalker : GoodIn wsX4_pay (va_wsS RX4 72 yX4_isWalker wsX4_isWalker) := goodIn_app (goodIn_of _ (by decide +kernel)) ggX4_pay_X4_isWalker
set_option maxRecDepth 20000 in
theorem ggX4_pay_X0_record : GoodIn wsX4_pay wsX0_record := goodIn_r _ [13, 14, 15, 16, 17, 18, 12, 19, 20, 21, 22, 23, 24, 25, 26, 27, 28, 29, 30, 31, 32, 33, 34, 35, 36, 37, 38, 39, 40, 7, 41, 61, 62, 46, 47, 48, 49, 50, 51, 52, 53, 54, 55, 56, 57, 58, 59, 60] (by decide +kernel) (by decide +kernel)
set_option maxRecDepth 20000 in
theorem gX4_pay_X0_record : GoodIn wsX4_pay (wsV RX4 44 RX0 yX0_record wsX0_record) := goodIn_app (goodIn_of _ (by decide +kernel)) ggX4_pay_X0_record
theorem dX4_pay_0 : decode cX4_pay 0 = .ok (.iload_n 1, 1) := by decide +kernel
theorem dX4_pay_1 : decode cX4_pay 1 = .ok (.invokestatic 72, 3) := by decide +kernel
theorem dX4_pay_4 : decode cX4_pay 4 = .ok (.ifCond .ne 5, 3) := by decide +kernel
theorem dX4_pay_7 : decode cX4_pay 7 = .ok (.iconst (-1), 1) := by decide +kernel
theorem dX4_pay_8 : decode cX4_pay 8 = .ok (.ireturn, 1) := by decide +kernel
theorem dX4_pay_9 : decode cX4_pay 9 = .ok (.aload_n 0, 1) := by decide +kernel
theorem dX4_pay_10 : decode cX4_pay 10 = .ok (.getfield 26, 3) := by decide +kernel
theorem dX4_pay_13 : decode cX4_pay 13 = .ok (.aload_n 0, 1) := by decide +kernel
theorem dX4_pay_14 : decode cX4_pay 14 = .ok (.getfield 10, 3) := by decide +kernel
theorem dX4_pay_17 : decode cX4_pay 17 = .ok (.invokevirtual 44, 3) := by decide +kernel
theorem dX4_pay_20 : decode cX4_pay 20 = .ok (.aload_n 0, 1) := by decide +kernel
theorem dX4_pay_21 : decode cX4_pay 21 = .ok (.getfield 10, 3) := by decide +kernel
theorem dX4_pay_24 : decode cX4_pay 24 = .ok (.getfield 104, 3) := by decide +kernel
theorem dX4_pay_27 : decode cX4_pay 27 = .ok (.iload_n 1, 1) := by decide +kernel
theorem dX4_pay_28 : decode cX4_pay 28 = .ok (.iaload, 1) := by decide +kernel
theorem dX4_pay_29 : decode cX4_pay 29 = .ok (.istore_n 2, 1) := by decide +kernel
theorem dX4_pay_30 : decode cX4_pay 30 = .ok (.aload_n 0, 1) := by decide +kernel
theorem dX4_pay_31 : decode cX4_pay 31 = .ok (.getfield 10, 3) := by decide +kernel
theorem dX4_pay_34 : decode cX4_pay 34 = .ok (.getfield 104, 3) := by decide +kernel
theorem dX4_pay_37 : decode cX4_pay 37 = .ok (.iload_n 1, 1) := by decide +kernel
theorem dX4_pay_38 : decode cX4_pay 38 = .ok (.iconst 0, 1) := by decide +kernel
theorem dX4_pay_39 : decode cX4_pay 39 = .ok (.iastore, 1) := by decide +kernel
theorem dX4_pay_40 : decode cX4_pay 40 = .ok (.aload_n 0, 1) := by decide +kernel
theorem dX4_pay_41 : decode cX4_pay 41 = .ok (.getfield 10, 3) := by decide +kernel
theorem dX4_pay_44 : decode cX4_pay 44 = .ok (.getfield 107, 3) := by decide +kernel
theorem dX4_pay_47 : decode cX4_pay 47 = .ok (.iload_n 1, 1) := by decide +kernel
theorem dX4_pay_48 : decode cX4_pay 48 = .ok (.dup2, 1) := by decide +kernel
theorem dX4_pay_49 : decode cX4_pay 49 = .ok (.iaload, 1) := by decide +kernel
theorem dX4_pay_50 : decode cX4_pay 50 = .ok (.iload_n 2, 1) := by decide +kernel
theorem dX4_pay_51 : decode cX4_pay 51 = .ok (.iadd, 1) := by decide +kernel
theorem dX4_pay_52 : decode cX4_pay 52 = .ok (.iastore, 1) := by decide +kernel
theorem dX4_pay_53 : decode cX4_pay 53 = .ok (.iload_n 2, 1) := by decide +kernel
theorem dX4_pay_54 : decode cX4_pay 54 = .ok (.ireturn, 1) := by decide +kernel
set_option maxRecDepth 20000 in
theorem ggX4_pass_X0_record : GoodIn wsX4_pass wsX0_record := goodIn_r _ [9, 10, 11, 12, 13, 14, 8, 15, 16, 17, 18, 19, 20, 21, 22, 23, 24, 25, 26, 27, 28, 29, 30, 31, 32, 33, 34, 35, 36, 37, 38, 101, 102, 86, 87, 88, 89, 90, 91, 92, 93, 94, 95, 96, 97, 98, 99, 100] (by decide +kernel) (by decide +kernel)
set_option maxRecDepth 20000 in
theorem gX4_pass_X0_record : GoodIn wsX4_pass (wsV RX4 44 RX0 yX0_record wsX0_record) := goodIn_app (goodIn_of _ (by decide +kernel)) ggX4_pass_X0_record
set_option maxRecDepth 20000 in
theorem ggX4_pass_X3_letPass : GoodIn wsX4_pass wsX3_letPass := goodIn_r _ [42, 43, 44, 45, 19, 46, 23, 21, 47, 48, 49, 50, 34, 30, 51, 52, 53, 54, 55, 37, 56, 57, 58, 59, 60, 61, 62, 63, 64, 65, 66, 67, 68, 31, 32, 69, 70, 71, 72, 29, 73, 74, 75, 76, 77, 78, 35, 33, 22, 86, 87, 88, 89, 90, 91, 92, 93, 94, 95, 96, 97, 98, 99, 100] (by decide +kernel) (by decide +kernel)
set_option maxRecDepth 20000 in
theorem gX4_pass_X3_letPass : GoodIn wsX4_pass (wsV RX4 114 RX3 yX3_letPass wsX3_letPass) := goodIn_app (goodIn_of _ (by decide +kernel)) ggX4_pass_X3_letPass
set_option maxRecDepth 20000 in
theorem ggX4_pass_X4_sum : GoodIn wsX4_pass wsX4_sum := goodIn_r _ [81] (by decide +kernel) (by decide +kernel)
set_option maxRecDepth 20000 in
theorem gX4_pass_X4_sum : GoodIn wsX4_pass (va_wsS RX4 117 yX4_sum wsX4_sum) := goodIn_app (goodIn_of _ (by decide +kernel)) ggX4_pass_X4_sum
theorem dX4_pass_0 : decode cX4_pass 0 = .ok (.iload_n 1, 1) := by decide +kernel
theorem dX4_pass_1 : decode cX4_pass 1 = .ok (.ifCond .lt 9, 3) := by decide +kernel
theorem dX4_pass_4 : decode cX4_pass 4 = .ok (.iload_n 1, 1) := by decide +kernel
theorem dX4_pass_5 : decode cX4_pass 5 = .ok (.bipush 11, 2) := by decide +kernel
theorem dX4_pass_7 : decode cX4_pass 7 = .ok (.if_icmp .le 6, 3) := by decide +kernel
theorem dX4_pass_10 : decode cX4_pass 10 = .ok (.bipush (-2), 2) := by decide +kernel
theorem dX4_pass_12 : decode cX4_pass 12 = .ok (.ireturn, 1) := by decide +kernel
theorem dX4_pass_13 : decode cX4_pass 13 = .ok (.iload_n 1, 1) := by decide +kernel
theorem dX4_pass_14 : decode cX4_pass 14 = .ok (.bipush 11, 2) := by decide +kernel
theorem dX4_pass_16 : decode cX4_pass 16 = .ok (.if_icmp .ne 19, 3) := by decide +kernel
theorem dX4_pass_19 : decode cX4_pass 19 = .ok (.aload_n 0, 1) := by decide +kernel
theorem dX4_pass_20 : decode cX4_pass 20 = .ok (.getfield 10, 3) := by decide +kernel
theorem dX4_pass_23 : decode cX4_pass 23 = .ok (.getfield 110, 3) := by decide +kernel
theorem dX4_pass_26 : decode cX4_pass 26 = .ok (.sipush 9999, 3) := by decide +kernel
theorem dX4_pass_29 : decode cX4_pass 29 = .ok (.if_icmp .lt 6, 3) := by decide +kernel
theorem dX4_pass_32 : decode cX4_pass 32 = .ok (.bipush (-4), 2) := by decide +kernel
theorem dX4_pass_34 : decode cX4_pass 34 = .ok (.ireturn, 1) := by decide +kernel
theorem dX4_pass_35 : decode cX4_pass 35 = .ok (.aload_n 0, 1) := by decide +kernel
theorem dX4_pass_36 : decode cX4_pass 36 = .ok (.getfield 26, 3) := by decide +kernel
theorem dX4_pass_39 : decode cX4_pass 39 = .ok (.aload_n 0, 1) := by decide +kernel
theorem dX4_pass_40 : decode cX4_pass 40 = .ok (.getfield 10, 3) := by decide +kernel
theorem dX4_pass_43 : decode cX4_pass 43 = .ok (.invokevirtual 44, 3) := by decide +kernel
theorem dX4_pass_46 : decode cX4_pass 46 = .ok (.aload_n 0, 1) := by decide +kernel
theorem dX4_pass_47 : decode cX4_pass 47 = .ok (.getfield 10, 3) := by decide +kernel
theorem dX4_pass_50 : decode cX4_pass 50 = .ok (.iload_n 1, 1) := by decide +kernel
theorem dX4_pass_51 : decode cX4_pass 51 = .ok (.invokevirtual 114, 3) := by decide +kernel
theorem dX4_pass_54 : decode cX4_pass 54 = .ok (.aload_n 0, 1) := by decide +kernel
theorem dX4_pass_55 : decode cX4_pass 55 = .ok (.getfield 10, 3) := by decide +kernel
theorem dX4_pass_58 : decode cX4_pass 58 = .ok (.getfield 65, 3) := by decide +kernel
theorem dX4_pass_61 : decode cX4_pass 61 = .ok (.invokestatic 117, 3) := by decide +kernel
theorem dX4_pass_64 : decode cX4_pass 64 = .ok (.ireturn, 1) := by decide +kernel
set_option maxRecDepth 20000 in
theorem ggX4_read_X1_findFault : GoodIn wsX4_read wsX1_findFault := goodIn_r _ [11, 12, 13, 14, 15, 10, 16, 17, 18, 19, 125, 126] (by decide +kernel) (by decide +kernel)
set_option maxRecDepth 20000 in
theorem gX4_read_X1_findFault : GoodIn wsX4_read (wsV RX4 121 RX1 yX1_findFault wsX1_findFault) := goodIn_app (goodIn_of _ (by decide +kernel)) ggX4_read_X1_findFault
set_option maxRecDepth 20000 in
theorem ggX4_read_X1_daysTold : GoodIn wsX4_read wsX1_daysTold := goodIn_r _ [23, 12, 24, 25, 26, 10, 27, 13, 14, 15, 16, 125, 126] (by decide +kernel) (by decide +kernel)
set_option maxRecDepth 20000 in
theorem gX4_read_X1_daysTold : GoodIn wsX4_read (wsV RX4 125 RX1 yX1_daysTold wsX1_daysTold) := goodIn_app (goodIn_of _ (by decide +kernel)) ggX4_read_X1_daysTold
set_option maxRecDepth 20000 in
theorem ggX4_read_X0_record : GoodIn wsX4_read wsX0_record := goodIn_r _ [32, 33, 34, 35, 36, 37, 31, 38, 39, 40, 41, 42, 43, 44, 45, 46, 47, 48, 49, 50, 51, 52, 53, 54, 55, 56, 57, 58, 59, 60, 61, 127, 128, 110, 111, 112, 113, 114, 115, 116, 117, 118, 119, 120, 121, 122, 123, 124] (by decide +kernel) (by decide +kernel)
set_option maxRecDepth 20000 in
theorem gX4_read_X0_record : GoodIn wsX4_read (wsV RX4 44 RX0 yX0_record wsX0_record) := goodIn_app (goodIn_of _ (by decide +kernel)) ggX4_read_X0_record
set_option maxRecDepth 20000 in
theorem ggX4_read_X1_weatherAt : GoodIn wsX4_read wsX1_weatherAt := goodIn_r _ [27, 13, 14, 15, 10, 16, 125, 126] (by decide +kernel) (by decide +kernel)
set_option maxRecDepth 20000 in
theorem gX4_read_X1_weatherAt : GoodIn wsX4_read (wsV RX4 131 RX1 yX1_weatherAt wsX1_weatherAt) := goodIn_app (goodIn_of _ (by decide +kernel)) ggX4_read_X1_weatherAt
set_option maxRecDepth 20000 in
theorem ggX4_read_X3_letPass : GoodIn wsX4_read wsX3_letPass := goodIn_r _ [66, 67, 68, 69, 42, 70, 46, 44, 71, 72, 73, 74, 57, 53, 75, 76, 77, 78, 79, 60, 80, 81, 82, 83, 84, 85, 86, 87, 88, 89, 90, 91, 92, 54, 55, 93, 94, 95, 96, 52, 97, 98, 99, 100, 101, 102, 58, 56, 45, 110, 111, 112, 113, 114, 115, 116, 117, 118, 119, 120, 121, 122, 123, 124] (by decide +kernel) (by decide +kernel)
set_option maxRecDepth 20000 in
theorem gX4_read_X3_letPass : GoodIn wsX4_read (wsV RX4 114 RX3 yX3_letPass wsX3_letPass) := goodIn_app (goodIn_of _ (by decide +kernel)) ggX4_read_X3_letPass
set_option maxRecDepth 20000 in
theorem ggX4_read_X4_sum : GoodIn wsX4_read wsX4_sum := goodIn_r _ [105] (by decide +kernel) (by decide +kernel)
set_option maxRecDepth 20000 in
theorem gX4_read_X4_sum : GoodIn wsX4_read (va_wsS RX4 117 yX4_sum wsX4_sum) := goodIn_app (goodIn_of _ (by decide +kernel)) ggX4_read_X4_sum
theorem dX4_read_0 : decode cX4_read 0 = .ok (.aload_n 0, 1) := by decide +kernel
theorem dX4_read_1 : decode cX4_read 1 = .ok (.getfield 19, 3) := by decide +kernel
theorem dX4_read_4 : decode cX4_read 4 = .ok (.invokevirtual 121, 3) := by decide +kernel
theorem dX4_read_7 : decode cX4_read 7 = .ok (.bipush (-6), 2) := by decide +kernel
theorem dX4_read_9 : decode cX4_read 9 = .ok (.if_icmp .eq 6, 3) := by decide +kernel
theorem dX4_read_12 : decode cX4_read 12 = .ok (.bipush (-3), 2) := by decide +kernel
theorem dX4_read_14 : decode cX4_read 14 = .ok (.ireturn, 1) := by decide +kernel
theorem dX4_read_15 : decode cX4_read 15 = .ok (.aload_n 0, 1) := by decide +kernel
theorem dX4_read_16 : decode cX4_read 16 = .ok (.getfield 10, 3) := by decide +kernel
theorem dX4_read_19 : decode cX4_read 19 = .ok (.getfield 110, 3) := by decide +kernel
theorem dX4_read_22 : decode cX4_read 22 = .ok (.aload_n 0, 1) := by decide +kernel
theorem dX4_read_23 : decode cX4_read 23 = .ok (.getfield 19, 3) := by decide +kernel
theorem dX4_read_26 : decode cX4_read 26 = .ok (.invokevirtual 125, 3) := by decide +kernel
theorem dX4_read_29 : decode cX4_read 29 = .ok (.iadd, 1) := by decide +kernel
theorem dX4_read_30 : decode cX4_read 30 = .ok (.sipush 9999, 3) := by decide +kernel
theorem dX4_read_33 : decode cX4_read 33 = .ok (.if_icmp .le 6, 3) := by decide +kernel
theorem dX4_read_36 : decode cX4_read 36 = .ok (.bipush (-4), 2) := by decide +kernel
theorem dX4_read_38 : decode cX4_read 38 = .ok (.ireturn, 1) := by decide +kernel
theorem dX4_read_39 : decode cX4_read 39 = .ok (.aload_n 0, 1) := by decide +kernel
theorem dX4_read_40 : decode cX4_read 40 = .ok (.getfield 26, 3) := by decide +kernel
theorem dX4_read_43 : decode cX4_read 43 = .ok (.aload_n 0, 1) := by decide +kernel
theorem dX4_read_44 : decode cX4_read 44 = .ok (.getfield 10, 3) := by decide +kernel
theorem dX4_read_47 : decode cX4_read 47 = .ok (.invokevirtual 44, 3) := by decide +kernel
theorem dX4_read_50 : decode cX4_read 50 = .ok (.iconst 0, 1) := by decide +kernel
theorem dX4_read_51 : decode cX4_read 51 = .ok (.istore_n 1, 1) := by decide +kernel
theorem dX4_read_52 : decode cX4_read 52 = .ok (.iload_n 1, 1) := by decide +kernel
theorem dX4_read_53 : decode cX4_read 53 = .ok (.aload_n 0, 1) := by decide +kernel
theorem dX4_read_54 : decode cX4_read 54 = .ok (.getfield 19, 3) := by decide +kernel
theorem dX4_read_57 : decode cX4_read 57 = .ok (.getfield 128, 3) := by decide +kernel
theorem dX4_read_60 : decode cX4_read 60 = .ok (.if_icmp .ge 24, 3) := by decide +kernel
theorem dX4_read_63 : decode cX4_read 63 = .ok (.aload_n 0, 1) := by decide +kernel
theorem dX4_read_64 : decode cX4_read 64 = .ok (.getfield 10, 3) := by decide +kernel
theorem dX4_read_67 : decode cX4_read 67 = .ok (.aload_n 0, 1) := by decide +kernel
theorem dX4_read_68 : decode cX4_read 68 = .ok (.getfield 19, 3) := by decide +kernel
theorem dX4_read_71 : decode cX4_read 71 = .ok (.iload_n 1, 1) := by decide +kernel
theorem dX4_read_72 : decode cX4_read 72 = .ok (.invokevirtual 131, 3) := by decide +kernel
theorem dX4_read_75 : decode cX4_read 75 = .ok (.invokevirtual 114, 3) := by decide +kernel
theorem dX4_read_78 : decode cX4_read 78 = .ok (.iinc 1 1, 3) := by decide +kernel
theorem dX4_read_81 : decode cX4_read 81 = .ok (.goto (-29), 3) := by decide +kernel
theorem dX4_read_84 : decode cX4_read 84 = .ok (.aload_n 0, 1) := by decide +kernel
theorem dX4_read_85 : decode cX4_read 85 = .ok (.getfield 19, 3) := by decide +kernel
theorem dX4_read_88 : decode cX4_read 88 = .ok (.iconst 0, 1) := by decide +kernel
theorem dX4_read_89 : decode cX4_read 89 = .ok (.putfield 128, 3) := by decide +kernel
theorem dX4_read_92 : decode cX4_read 92 = .ok (.aload_n 0, 1) := by decide +kernel
theorem dX4_read_93 : decode cX4_read 93 = .ok (.getfield 10, 3) := by decide +kernel
theorem dX4_read_96 : decode cX4_read 96 = .ok (.getfield 65, 3) := by decide +kernel
theorem dX4_read_99 : decode cX4_read 99 = .ok (.invokestatic 117, 3) := by decide +kernel
theorem dX4_read_102 : decode cX4_read 102 = .ok (.ireturn, 1) := by decide +kernel
set_option maxRecDepth 20000 in
theorem ggX4_puddle_X4_isPuddle : GoodIn wsX4_puddle wsX4_isPuddle := goodIn_r _ [8] (by decide +kernel) (by decide +kernel)
set_option maxRecDepth 20000 in
theorem gX4_puddle_X4_isPuddle : GoodIn wsX4_puddle (va_wsS RX4 51 yX4_isPuddle wsX4_isPuddle) := goodIn_app (goodIn_of _ (by decide +kernel)) ggX4_puddle_X4_isPuddle
set_option maxRecDepth 20000 in
theorem ggX4_puddle_X3_depth : GoodIn wsX4_puddle wsX3_depth := goodIn_r _ [13, 14, 42, 43, 44, 45, 46, 47, 48, 49, 50, 51, 52, 53, 54, 55, 56] (by decide +kernel) (by decide +kernel)
set_option maxRecDepth 20000 in
theorem gX4_puddle_X3_depth : GoodIn wsX4_puddle (wsV RX4 134 RX3 yX3_depth wsX3_depth) := goodIn_app (goodIn_of _ (by decide +kernel)) ggX4_puddle_X3_depth
set_option maxRecDepth 20000 in
theorem ggX4_puddle_X3_isFrozen : GoodIn wsX4_puddle wsX3_isFrozen := goodIn_r _ [18, 19, 20, 7, 21, 42, 43, 44, 45, 46, 47, 48, 49, 50, 51, 52, 53, 54, 55, 56] (by decide +kernel) (by decide +kernel)
set_option maxRecDepth 20000 in
theorem gX4_puddle_X3_isFrozen : GoodIn wsX4_puddle (wsV RX4 137 RX3 yX3_isFrozen wsX3_isFrozen) := goodIn_app (goodIn_of _ (by decide +kernel)) ggX4_puddle_X3_isFrozen
set_option maxRecDepth 20000 in
theorem ggX4_puddle_X3_hasDucks : GoodIn wsX4_puddle wsX3_hasDucks := goodIn_r _ [25, 26, 20, 7, 21, 42, 43, 44, 45, 46, 47, 48, 49, 50, 51, 52, 53, 54, 55, 56] (by decide +kernel) (by decide +kernel)
set_option maxRecDepth 20000 in
theorem gX4_puddle_X3_hasDucks : GoodIn wsX4_puddle (wsV RX4 62 RX3 yX3_hasDucks wsX3_hasDucks) := goodIn_app (goodIn_of _ (by decide +kernel)) ggX4_puddle_X3_hasDucks
set_option maxRecDepth 20000 in
theorem ggX4_puddle_X3_permitHoldersAt : GoodIn wsX4_puddle wsX3_permitHoldersAt := goodIn_r _ [30, 31, 32, 33, 12, 34, 35, 36, 7, 37, 42, 43, 44, 45, 46, 47, 48, 49, 50, 51, 52, 53, 54, 55, 56] (by decide +kernel) (by decide +kernel)
set_option maxRecDepth 20000 in
theorem gX4_puddle_X3_permitHoldersAt : GoodIn wsX4_puddle (wsV RX4 143 RX3 yX3_permitHoldersAt wsX3_permitHoldersAt) := goodIn_app (goodIn_of _ (by decide +kernel)) ggX4_puddle_X3_permitHoldersAt
theorem dX4_puddle_0 : decode cX4_puddle 0 = .ok (.iload_n 1, 1) := by decide +kernel
theorem dX4_puddle_1 : decode cX4_puddle 1 = .ok (.invokestatic 51, 3) := by decide +kernel
theorem dX4_puddle_4 : decode cX4_puddle 4 = .ok (.ifCond .ne 5, 3) := by decide +kernel
theorem dX4_puddle_7 : decode cX4_puddle 7 = .ok (.iconst (-1), 1) := by decide +kernel
theorem dX4_puddle_8 : decode cX4_puddle 8 = .ok (.ireturn, 1) := by decide +kernel
theorem dX4_puddle_9 : decode cX4_puddle 9 = .ok (.iload_n 2, 1) := by decide +kernel
theorem dX4_puddle_10 : decode cX4_puddle 10 = .ok (.tableswitch 124 0 6 #[42, 52, 62, 71, 88, 105, 115], 42) := by decide +kernel
theorem dX4_puddle_52 : decode cX4_puddle 52 = .ok (.aload_n 0, 1) := by decide +kernel
theorem dX4_puddle_53 : decode cX4_puddle 53 = .ok (.getfield 10, 3) := by decide +kernel
theorem dX4_puddle_56 : decode cX4_puddle 56 = .ok (.getfield 55, 3) := by decide +kernel
theorem dX4_puddle_59 : decode cX4_puddle 59 = .ok (.iload_n 1, 1) := by decide +kernel
theorem dX4_puddle_60 : decode cX4_puddle 60 = .ok (.iaload, 1) := by decide +kernel
theorem dX4_puddle_61 : decode cX4_puddle 61 = .ok (.ireturn, 1) := by decide +kernel
theorem dX4_puddle_62 : decode cX4_puddle 62 = .ok (.aload_n 0, 1) := by decide +kernel
theorem dX4_puddle_63 : decode cX4_puddle 63 = .ok (.getfield 10, 3) := by decide +kernel
theorem dX4_puddle_66 : decode cX4_puddle 66 = .ok (.getfield 65, 3) := by decide +kernel
theorem dX4_puddle_69 : decode cX4_puddle 69 = .ok (.iload_n 1, 1) := by decide +kernel
theorem dX4_puddle_70 : decode cX4_puddle 70 = .ok (.iaload, 1) := by decide +kernel
theorem dX4_puddle_71 : decode cX4_puddle 71 = .ok (.ireturn, 1) := by decide +kernel
theorem dX4_puddle_72 : decode cX4_puddle 72 = .ok (.aload_n 0, 1) := by decide +kernel
theorem dX4_puddle_73 : decode cX4_puddle 73 = .ok (.getfield 10, 3) := by decide +kernel
theorem dX4_puddle_76 : decode cX4_puddle 76 = .ok (.iload_n 1, 1) := by decide +kernel
theorem dX4_puddle_77 : decode cX4_puddle 77 = .ok (.invokevirtual 134, 3) := by decide +kernel
theorem dX4_puddle_80 : decode cX4_puddle 80 = .ok (.ireturn, 1) := by decide +kernel
theorem dX4_puddle_81 : decode cX4_puddle 81 = .ok (.aload_n 0, 1) := by decide +kernel
theorem dX4_puddle_82 : decode cX4_puddle 82 = .ok (.getfield 10, 3) := by decide +kernel
theorem dX4_puddle_85 : decode cX4_puddle 85 = .ok (.iload_n 1, 1) := by decide +kernel
theorem dX4_puddle_86 : decode cX4_puddle 86 = .ok (.invokevirtual 137, 3) := by decide +kernel
theorem dX4_puddle_89 : decode cX4_puddle 89 = .ok (.ifCond .eq 7, 3) := by decide +kernel
theorem dX4_puddle_92 : decode cX4_puddle 92 = .ok (.iconst 1, 1) := by decide +kernel
theorem dX4_puddle_93 : decode cX4_puddle 93 = .ok (.goto 4, 3) := by decide +kernel
theorem dX4_puddle_96 : decode cX4_puddle 96 = .ok (.iconst 0, 1) := by decide +kernel
theorem dX4_puddle_97 : decode cX4_puddle 97 = .ok (.ireturn, 1) := by decide +kernel
theorem dX4_puddle_98 : decode cX4_puddle 98 = .ok (.aload_n 0, 1) := by decide +kernel
theorem dX4_puddle_99 : decode cX4_puddle 99 = .ok (.getfield 10, 3) := by decide +kernel
theorem dX4_puddle_102 : decode cX4_puddle 102 = .ok (.iload_n 1, 1) := by decide +kernel
theorem dX4_puddle_103 : decode cX4_puddle 103 = .ok (.invokevirtual 62, 3) := by decide +kernel
theorem dX4_puddle_106 : decode cX4_puddle 106 = .ok (.ifCond .eq 7, 3) := by decide +kernel
theorem dX4_puddle_109 : decode cX4_puddle 109 = .ok (.iconst 1, 1) := by decide +kernel
theorem dX4_puddle_110 : decode cX4_puddle 110 = .ok (.goto 4, 3) := by decide +kernel
theorem dX4_puddle_113 : decode cX4_puddle 113 = .ok (.iconst 0, 1) := by decide +kernel
theorem dX4_puddle_114 : decode cX4_puddle 114 = .ok (.ireturn, 1) := by decide +kernel
theorem dX4_puddle_115 : decode cX4_puddle 115 = .ok (.aload_n 0, 1) := by decide +kernel
theorem dX4_puddle_116 : decode cX4_puddle 116 = .ok (.getfield 10, 3) := by decide +kernel
theorem dX4_puddle_119 : decode cX4_puddle 119 = .ok (.getfield 140, 3) := by decide +kernel
theorem dX4_puddle_122 : decode cX4_puddle 122 = .ok (.iload_n 1, 1) := by decide +kernel
theorem dX4_puddle_123 : decode cX4_puddle 123 = .ok (.iaload, 1) := by decide +kernel
theorem dX4_puddle_124 : decode cX4_puddle 124 = .ok (.ireturn, 1) := by decide +kernel
theorem dX4_puddle_125 : decode cX4_puddle 125 = .ok (.aload_n 0, 1) := by decide +kernel
theorem dX4_puddle_126 : decode cX4_puddle 126 = .ok (.getfield 10, 3) := by decide +kernel
theorem dX4_puddle_129 : decode cX4_puddle 129 = .ok (.iload_n 1, 1) := by decide +kernel
theorem dX4_puddle_130 : decode cX4_puddle 130 = .ok (.invokevirtual 143, 3) := by decide +kernel
theorem dX4_puddle_133 : decode cX4_puddle 133 = .ok (.ireturn, 1) := by decide +kernel
theorem dX4_puddle_134 : decode cX4_puddle 134 = .ok (.bipush (-2), 2) := by decide +kernel
theorem dX4_puddle_136 : decode cX4_puddle 136 = .ok (.ireturn, 1) := by decide +kernel
set_option maxRecDepth 20000 in
theorem ggX4_walker_X4_isWalker : GoodIn wsX4_walker wsX4_isWalker := goodIn_r _ [9] (by decide +kernel) (by decide +kernel)
set_option maxRecDepth 20000 in
theorem gX4_walker_X4_isWalker : GoodIn wsX4_walker (va_wsS RX4 72 yX4_isWalker wsX4_isWalker) := goodIn_app (goodIn_of _ (by decide +kernel)) ggX4_walker_X4_isWalker
set_option maxRecDepth 20000 in
theorem ggX4_walker_X3_permitsOf : GoodIn wsX4_walker wsX3_permitsOf := goodIn_r _ [14, 15, 16, 17, 13, 18, 19, 20, 8, 21, 59, 60, 61, 62, 63, 64, 65, 66, 67, 68, 69, 70, 71, 72, 73] (by decide +kernel) (by decide +kernel)
set_option maxRecDepth 20000 in
theorem gX4_walker_X3_permitsOf : GoodIn wsX4_walker (wsV RX4 85 RX3 yX3_permitsOf wsX3_permitsOf) := goodIn_app (goodIn_of _ (by decide +kernel)) ggX4_walker_X3_permitsOf
set_option maxRecDepth 20000 in
theorem ggX4_walker_X3_allowedFor : GoodIn wsX4_walker wsX3_allowedFor := goodIn_r _ [25, 26, 27, 28, 13, 29, 30, 31, 32, 33, 34, 35, 36, 37, 38, 39, 40, 8, 41, 15, 16, 17, 18, 19, 20, 21, 42, 43, 44, 45, 46, 47, 48, 49, 50, 51, 52, 53, 54, 59, 60, 61, 62, 63, 64, 65, 66, 67, 68, 69, 70, 71, 72, 73] (by decide +kernel) (by decide +kernel)
set_option maxRecDepth 20000 in
theorem gX4_walker_X3_allowedFor : GoodIn wsX4_walker (wsV RX4 149 RX3 yX3_allowedFor wsX3_allowedFor) := goodIn_app (goodIn_of _ (by decide +kernel)) ggX4_walker_X3_allowedFor
theorem dX4_walker_0 : decode cX4_walker 0 = .ok (.iload_n 1, 1) := by decide +kernel
theorem dX4_walker_1 : decode cX4_walker 1 = .ok (.invokestatic 72, 3) := by decide +kernel
theorem dX4_walker_4 : decode cX4_walker 4 = .ok (.ifCond .ne 5, 3) := by decide +kernel
theorem dX4_walker_7 : decode cX4_walker 7 = .ok (.iconst (-1), 1) := by decide +kernel
theorem dX4_walker_8 : decode cX4_walker 8 = .ok (.ireturn, 1) := by decide +kernel
theorem dX4_walker_9 : decode cX4_walker 9 = .ok (.iload_n 2, 1) := by decide +kernel
theorem dX4_walker_10 : decode cX4_walker 10 = .ok (.tableswitch 96 0 5 #[38, 48, 58, 68, 78, 87], 38) := by decide +kernel
theorem dX4_walker_48 : decode cX4_walker 48 = .ok (.aload_n 0, 1) := by decide +kernel
theorem dX4_walker_49 : decode cX4_walker 49 = .ok (.getfield 10, 3) := by decide +kernel
theorem dX4_walker_52 : decode cX4_walker 52 = .ok (.getfield 75, 3) := by decide +kernel
theorem dX4_walker_55 : decode cX4_walker 55 = .ok (.iload_n 1, 1) := by decide +kernel
theorem dX4_walker_56 : decode cX4_walker 56 = .ok (.iaload, 1) := by decide +kernel
theorem dX4_walker_57 : decode cX4_walker 57 = .ok (.ireturn, 1) := by decide +kernel
theorem dX4_walker_58 : decode cX4_walker 58 = .ok (.aload_n 0, 1) := by decide +kernel
theorem dX4_walker_59 : decode cX4_walker 59 = .ok (.getfield 10, 3) := by decide +kernel
theorem dX4_walker_62 : decode cX4_walker 62 = .ok (.getfield 104, 3) := by decide +kernel
theorem dX4_walker_65 : decode cX4_walker 65 = .ok (.iload_n 1, 1) := by decide +kernel
theorem dX4_walker_66 : decode cX4_walker 66 = .ok (.iaload, 1) := by decide +kernel
theorem dX4_walker_67 : decode cX4_walker 67 = .ok (.ireturn, 1) := by decide +kernel
theorem dX4_walker_68 : decode cX4_walker 68 = .ok (.aload_n 0, 1) := by decide +kernel
theorem dX4_walker_69 : decode cX4_walker 69 = .ok (.getfield 10, 3) := by decide +kernel
theorem dX4_walker_72 : decode cX4_walker 72 = .ok (.getfield 107, 3) := by decide +kernel
theorem dX4_walker_75 : decode cX4_walker 75 = .ok (.iload_n 1, 1) := by decide +kernel
theorem dX4_walker_76 : decode cX4_walker 76 = .ok (.iaload, 1) := by decide +kernel
theorem dX4_walker_77 : decode cX4_walker 77 = .ok (.ireturn, 1) := by decide +kernel
theorem dX4_walker_78 : decode cX4_walker 78 = .ok (.aload_n 0, 1) := by decide +kernel
theorem dX4_walker_79 : decode cX4_walker 79 = .ok (.getfield 10, 3) := by decide +kernel
theorem dX4_walker_82 : decode cX4_walker 82 = .ok (.getfield 146, 3) := by decide +kernel
theorem dX4_walker_85 : decode cX4_walker 85 = .ok (.iload_n 1, 1) := by decide +kernel
theorem dX4_walker_86 : decode cX4_walker 86 = .ok (.iaload, 1) := by decide +kernel
theorem dX4_walker_87 : decode cX4_walker 87 = .ok (.ireturn, 1) := by decide +kernel
theorem dX4_walker_88 : decode cX4_walker 88 = .ok (.aload_n 0, 1) := by decide +kernel
theorem dX4_walker_89 : decode cX4_walker 89 = .ok (.getfield 10, 3) := by decide +kernel
theorem dX4_walker_92 : decode cX4_walker 92 = .ok (.iload_n 1, 1) := by decide +kernel
theorem dX4_walker_93 : decode cX4_walker 93 = .ok (.invokevirtual 85, 3) := by decide +kernel
theorem dX4_walker_96 : decode cX4_walker 96 = .ok (.ireturn, 1) := by decide +kernel
theorem dX4_walker_97 : decode cX4_walker 97 = .ok (.aload_n 0, 1) := by decide +kernel
theorem dX4_walker_98 : decode cX4_walker 98 = .ok (.getfield 10, 3) := by decide +kernel
theorem dX4_walker_101 : decode cX4_walker 101 = .ok (.iload_n 1, 1) := by decide +kernel
theorem dX4_walker_102 : decode cX4_walker 102 = .ok (.invokevirtual 149, 3) := by decide +kernel
theorem dX4_walker_105 : decode cX4_walker 105 = .ok (.ireturn, 1) := by decide +kernel
theorem dX4_walker_106 : decode cX4_walker 106 = .ok (.bipush (-2), 2) := by decide +kernel
theorem dX4_walker_108 : decode cX4_walker 108 = .ok (.ireturn, 1) := by decide +kernel
set_option maxRecDepth 20000 in
theorem ggX4_why_X4_isWalker : GoodIn wsX4_why wsX4_isWalker := goodIn_r _ [6] (by decide +kernel) (by decide +kernel)
set_option maxRecDepth 20000 in
theorem gX4_why_X4_isWalker : GoodIn wsX4_why (va_wsS RX4 72 yX4_isWalker wsX4_isWalker) := goodIn_app (goodIn_of _ (by decide +kernel)) ggX4_why_X4_isWalker
set_option maxRecDepth 20000 in
theorem ggX4_why_X4_isPuddle : GoodIn wsX4_why wsX4_isPuddle := goodIn_r _ [9] (by decide +kernel) (by decide +kernel)
set_option maxRecDepth 20000 in
theorem gX4_why_X4_isPuddle : GoodIn wsX4_why (va_wsS RX4 51 yX4_isPuddle wsX4_isPuddle) := goodIn_app (goodIn_of _ (by decide +kernel)) ggX4_why_X4_isPuddle
set_option maxRecDepth 20000 in
theorem ggX4_why_X3_reasonAgainst : GoodIn wsX4_why wsX3_reasonAgainst := goodIn_r _ [14, 15, 16, 17, 13, 18, 19, 20, 5, 21, 22, 23, 24, 25, 26, 27, 28, 29, 30, 31, 32, 33, 34, 35, 36, 37, 38, 39, 40, 41, 46, 47, 48, 49, 50, 51, 52, 53, 54, 55, 56, 57, 58, 59, 60] (by decide +kernel) (by decide +kernel)
set_option maxRecDepth 20000 in
theorem gX4_why_X3_reasonAgainst : GoodIn wsX4_why (wsV RX4 152 RX3 yX3_reasonAgainst wsX3_reasonAgainst) := goodIn_app (goodIn_of _ (by decide +kernel)) ggX4_why_X3_reasonAgainst
theorem dX4_why_0 : decode cX4_why 0 = .ok (.iload_n 1, 1) := by decide +kernel
theorem dX4_why_1 : decode cX4_why 1 = .ok (.invokestatic 72, 3) := by decide +kernel
theorem dX4_why_4 : decode cX4_why 4 = .ok (.ifCond .eq 10, 3) := by decide +kernel
theorem dX4_why_7 : decode cX4_why 7 = .ok (.iload_n 2, 1) := by decide +kernel
theorem dX4_why_8 : decode cX4_why 8 = .ok (.invokestatic 51, 3) := by decide +kernel
theorem dX4_why_11 : decode cX4_why 11 = .ok (.ifCond .ne 5, 3) := by decide +kernel
theorem dX4_why_14 : decode cX4_why 14 = .ok (.iconst (-1), 1) := by decide +kernel
theorem dX4_why_15 : decode cX4_why 15 = .ok (.ireturn, 1) := by decide +kernel
theorem dX4_why_16 : decode cX4_why 16 = .ok (.aload_n 0, 1) := by decide +kernel
theorem dX4_why_17 : decode cX4_why 17 = .ok (.getfield 10, 3) := by decide +kernel
theorem dX4_why_20 : decode cX4_why 20 = .ok (.iload_n 1, 1) := by decide +kernel
theorem dX4_why_21 : decode cX4_why 21 = .ok (.iload_n 2, 1) := by decide +kernel
theorem dX4_why_22 : decode cX4_why 22 = .ok (.aload_n 0, 1) := by decide +kernel
theorem dX4_why_23 : decode cX4_why 23 = .ok (.getfield 10, 3) := by decide +kernel
theorem dX4_why_26 : decode cX4_why 26 = .ok (.getfield 75, 3) := by decide +kernel
theorem dX4_why_29 : decode cX4_why 29 = .ok (.iload_n 1, 1) := by decide +kernel
theorem dX4_why_30 : decode cX4_why 30 = .ok (.iaload, 1) := by decide +kernel
theorem dX4_why_31 : decode cX4_why 31 = .ok (.invokevirtual 152, 3) := by decide +kernel
theorem dX4_why_34 : decode cX4_why 34 = .ok (.ireturn, 1) := by decide +kernel
set_option maxRecDepth 20000 in
theorem ggX4_holds_X4_isWalker : GoodIn wsX4_holds wsX4_isWalker := goodIn_r _ [6] (by decide +kernel) (by decide +kernel)
set_option maxRecDepth 20000 in
theorem gX4_holds_X4_isWalker : GoodIn wsX4_holds (va_wsS RX4 72 yX4_isWalker wsX4_isWalker) := goodIn_app (goodIn_of _ (by decide +kernel)) ggX4_holds_X4_isWalker
set_option maxRecDepth 20000 in
theorem ggX4_holds_X4_isPuddle : GoodIn wsX4_holds wsX4_isPuddle := goodIn_r _ [9] (by decide +kernel) (by decide +kernel)
set_option maxRecDepth 20000 in
theorem gX4_holds_X4_isPuddle : GoodIn wsX4_holds (va_wsS RX4 51 yX4_isPuddle wsX4_isPuddle) := goodIn_app (goodIn_of _ (by decide +kernel)) ggX4_holds_X4_isPuddle
set_option maxRecDepth 20000 in
theorem ggX4_holds_X4_placeOf : GoodIn wsX4_holds wsX4_placeOf := goodIn_r _ [12] (by decide +kernel) (by decide +kernel)
set_option maxRecDepth 20000 in
theorem gX4_holds_X4_placeOf : GoodIn wsX4_holds (va_wsS RX4 81 yX4_placeOf wsX4_placeOf) := goodIn_app (goodIn_of _ (by decide +kernel)) ggX4_holds_X4_placeOf
theorem dX4_holds_0 : decode cX4_holds 0 = .ok (.iload_n 1, 1) := by decide +kernel
theorem dX4_holds_1 : decode cX4_holds 1 = .ok (.invokestatic 72, 3) := by decide +kernel
theorem dX4_holds_4 : decode cX4_holds 4 = .ok (.ifCond .eq 10, 3) := by decide +kernel
theorem dX4_holds_7 : decode cX4_holds 7 = .ok (.iload_n 2, 1) := by decide +kernel
theorem dX4_holds_8 : decode cX4_holds 8 = .ok (.invokestatic 51, 3) := by decide +kernel
theorem dX4_holds_11 : decode cX4_holds 11 = .ok (.ifCond .ne 5, 3) := by decide +kernel
theorem dX4_holds_14 : decode cX4_holds 14 = .ok (.iconst (-1), 1) := by decide +kernel
theorem dX4_holds_15 : decode cX4_holds 15 = .ok (.ireturn, 1) := by decide +kernel
theorem dX4_holds_16 : decode cX4_holds 16 = .ok (.aload_n 0, 1) := by decide +kernel
theorem dX4_holds_17 : decode cX4_holds 17 = .ok (.getfield 10, 3) := by decide +kernel
theorem dX4_holds_20 : decode cX4_holds 20 = .ok (.getfield 78, 3) := by decide +kernel
theorem dX4_holds_23 : decode cX4_holds 23 = .ok (.iload_n 1, 1) := by decide +kernel
theorem dX4_holds_24 : decode cX4_holds 24 = .ok (.iload_n 2, 1) := by decide +kernel
theorem dX4_holds_25 : decode cX4_holds 25 = .ok (.invokestatic 81, 3) := by decide +kernel
theorem dX4_holds_28 : decode cX4_holds 28 = .ok (.iaload, 1) := by decide +kernel
theorem dX4_holds_29 : decode cX4_holds 29 = .ok (.istore_n 3, 1) := by decide +kernel
theorem dX4_holds_30 : decode cX4_holds 30 = .ok (.iload_n 3, 1) := by decide +kernel
theorem dX4_holds_31 : decode cX4_holds 31 = .ok (.ifCond .le 7, 3) := by decide +kernel
theorem dX4_holds_34 : decode cX4_holds 34 = .ok (.iload_n 3, 1) := by decide +kernel
theorem dX4_holds_35 : decode cX4_holds 35 = .ok (.goto 5, 3) := by decide +kernel
theorem dX4_holds_38 : decode cX4_holds 38 = .ok (.bipush (-6), 2) := by decide +kernel
theorem dX4_holds_40 : decode cX4_holds 40 = .ok (.ireturn, 1) := by decide +kernel
set_option maxRecDepth 20000 in
theorem ggX4_count_X4_sum : GoodIn wsX4_count wsX4_sum := goodIn_r _ [19] (by decide +kernel) (by decide +kernel)
set_option maxRecDepth 20000 in
theorem gX4_count_X4_sum : GoodIn wsX4_count (va_wsS RX4 117 yX4_sum wsX4_sum) := goodIn_app (goodIn_of _ (by decide +kernel)) ggX4_count_X4_sum
set_option maxRecDepth 20000 in
theorem ggX4_count_X3_allPermits : GoodIn wsX4_count wsX3_allPermits := goodIn_r _ [24, 25, 26, 27, 23, 28, 29, 30, 31, 32, 33, 34, 18, 35, 36, 37, 38, 39, 40, 41, 42, 47, 48, 49, 50, 51, 52, 53, 54, 55, 56, 57, 58, 59, 60, 61] (by decide +kernel) (by decide +kernel)
set_option maxRecDepth 20000 in
theorem gX4_count_X3_allPermits : GoodIn wsX4_count (wsV RX4 170 RX3 yX3_allPermits wsX3_allPermits) := goodIn_app (goodIn_of _ (by decide +kernel)) ggX4_count_X3_allPermits
theorem dX4_count_0 : decode cX4_count 0 = .ok (.iload_n 1, 1) := by decide +kernel
theorem dX4_count_1 : decode cX4_count 1 = .ok (.ifCond .lt 18, 3) := by decide +kernel
theorem dX4_count_4 : decode cX4_count 4 = .ok (.iload_n 1, 1) := by decide +kernel
theorem dX4_count_5 : decode cX4_count 5 = .ok (.iconst 4, 1) := by decide +kernel
theorem dX4_count_6 : decode cX4_count 6 = .ok (.if_icmp .ge 13, 3) := by decide +kernel
theorem dX4_count_9 : decode cX4_count 9 = .ok (.aload_n 0, 1) := by decide +kernel
theorem dX4_count_10 : decode cX4_count 10 = .ok (.getfield 10, 3) := by decide +kernel
theorem dX4_count_13 : decode cX4_count 13 = .ok (.getfield 48, 3) := by decide +kernel
theorem dX4_count_16 : decode cX4_count 16 = .ok (.iload_n 1, 1) := by decide +kernel
theorem dX4_count_17 : decode cX4_count 17 = .ok (.iaload, 1) := by decide +kernel
theorem dX4_count_18 : decode cX4_count 18 = .ok (.ireturn, 1) := by decide +kernel
theorem dX4_count_19 : decode cX4_count 19 = .ok (.iload_n 1, 1) := by decide +kernel
theorem dX4_count_20 : decode cX4_count 20 = .ok (.tableswitch 169 4 15 #[64, 72, 83, 91, 99, 107, 115, 123, 131, 142, 153, 161], 64) := by decide +kernel
theorem dX4_count_84 : decode cX4_count 84 = .ok (.aload_n 0, 1) := by decide +kernel
theorem dX4_count_85 : decode cX4_count 85 = .ok (.getfield 10, 3) := by decide +kernel
theorem dX4_count_88 : decode cX4_count 88 = .ok (.getfield 110, 3) := by decide +kernel
theorem dX4_count_91 : decode cX4_count 91 = .ok (.ireturn, 1) := by decide +kernel
theorem dX4_count_92 : decode cX4_count 92 = .ok (.aload_n 0, 1) := by decide +kernel
theorem dX4_count_93 : decode cX4_count 93 = .ok (.getfield 10, 3) := by decide +kernel
theorem dX4_count_96 : decode cX4_count 96 = .ok (.getfield 65, 3) := by decide +kernel
theorem dX4_count_99 : decode cX4_count 99 = .ok (.invokestatic 117, 3) := by decide +kernel
theorem dX4_count_102 : decode cX4_count 102 = .ok (.ireturn, 1) := by decide +kernel
theorem dX4_count_103 : decode cX4_count 103 = .ok (.aload_n 0, 1) := by decide +kernel
theorem dX4_count_104 : decode cX4_count 104 = .ok (.getfield 10, 3) := by decide +kernel
theorem dX4_count_107 : decode cX4_count 107 = .ok (.getfield 155, 3) := by decide +kernel
theorem dX4_count_110 : decode cX4_count 110 = .ok (.ireturn, 1) := by decide +kernel
theorem dX4_count_111 : decode cX4_count 111 = .ok (.aload_n 0, 1) := by decide +kernel
theorem dX4_count_112 : decode cX4_count 112 = .ok (.getfield 10, 3) := by decide +kernel
theorem dX4_count_115 : decode cX4_count 115 = .ok (.getfield 158, 3) := by decide +kernel
theorem dX4_count_118 : decode cX4_count 118 = .ok (.ireturn, 1) := by decide +kernel
theorem dX4_count_119 : decode cX4_count 119 = .ok (.aload_n 0, 1) := by decide +kernel
theorem dX4_count_120 : decode cX4_count 120 = .ok (.getfield 10, 3) := by decide +kernel
theorem dX4_count_123 : decode cX4_count 123 = .ok (.getfield 161, 3) := by decide +kernel
theorem dX4_count_126 : decode cX4_count 126 = .ok (.ireturn, 1) := by decide +kernel
theorem dX4_count_127 : decode cX4_count 127 = .ok (.aload_n 0, 1) := by decide +kernel
theorem dX4_count_128 : decode cX4_count 128 = .ok (.getfield 10, 3) := by decide +kernel
theorem dX4_count_131 : decode cX4_count 131 = .ok (.getfield 164, 3) := by decide +kernel
theorem dX4_count_134 : decode cX4_count 134 = .ok (.ireturn, 1) := by decide +kernel
theorem dX4_count_135 : decode cX4_count 135 = .ok (.aload_n 0, 1) := by decide +kernel
theorem dX4_count_136 : decode cX4_count 136 = .ok (.getfield 10, 3) := by decide +kernel
theorem dX4_count_139 : decode cX4_count 139 = .ok (.getfield 167, 3) := by decide +kernel
theorem dX4_count_142 : decode cX4_count 142 = .ok (.ireturn, 1) := by decide +kernel
theorem dX4_count_143 : decode cX4_count 143 = .ok (.aload_n 0, 1) := by decide +kernel
theorem dX4_count_144 : decode cX4_count 144 = .ok (.getfield 10, 3) := by decide +kernel
theorem dX4_count_147 : decode cX4_count 147 = .ok (.invokevirtual 170, 3) := by decide +kernel
theorem dX4_count_150 : decode cX4_count 150 = .ok (.ireturn, 1) := by decide +kernel
theorem dX4_count_151 : decode cX4_count 151 = .ok (.aload_n 0, 1) := by decide +kernel
theorem dX4_count_152 : decode cX4_count 152 = .ok (.getfield 10, 3) := by decide +kernel
theorem dX4_count_155 : decode cX4_count 155 = .ok (.getfield 104, 3) := by decide +kernel
theorem dX4_count_158 : decode cX4_count 158 = .ok (.invokestatic 117, 3) := by decide +kernel
theorem dX4_count_161 : decode cX4_count 161 = .ok (.ireturn, 1) := by decide +kernel
theorem dX4_count_162 : decode cX4_count 162 = .ok (.aload_n 0, 1) := by decide +kernel
theorem dX4_count_163 : decode cX4_count 163 = .ok (.getfield 10, 3) := by decide +kernel
theorem dX4_count_166 : decode cX4_count 166 = .ok (.getfield 107, 3) := by decide +kernel
theorem dX4_count_169 : decode cX4_count 169 = .ok (.invokestatic 117, 3) := by decide +kernel
theorem dX4_count_172 : decode cX4_count 172 = .ok (.ireturn, 1) := by decide +kernel
theorem dX4_count_173 : decode cX4_count 173 = .ok (.aload_n 0, 1) := by decide +kernel
theorem dX4_count_174 : decode cX4_count 174 = .ok (.getfield 19, 3) := by decide +kernel
theorem dX4_count_177 : decode cX4_count 177 = .ok (.getfield 128, 3) := by decide +kernel
theorem dX4_count_180 : decode cX4_count 180 = .ok (.ireturn, 1) := by decide +kernel
theorem dX4_count_181 : decode cX4_count 181 = .ok (.aload_n 0, 1) := by decide +kernel
theorem dX4_count_182 : decode cX4_count 182 = .ok (.getfield 26, 3) := by decide +kernel
theorem dX4_count_185 : decode cX4_count 185 = .ok (.getfield 173, 3) := by decide +kernel
theorem dX4_count_188 : decode cX4_count 188 = .ok (.ireturn, 1) := by decide +kernel
theorem dX4_count_189 : decode cX4_count 189 = .ok (.bipush (-2), 2) := by decide +kernel
theorem dX4_count_191 : decode cX4_count 191 = .ok (.ireturn, 1) := by decide +kernel
set_option maxRecDepth 20000 in
theorem ggX4_cost_X4_isWalker : GoodIn wsX4_cost wsX4_isWalker := goodIn_r _ [5] (by decide +kernel) (by decide +kernel)
set_option maxRecDepth 20000 in
theorem gX4_cost_X4_isWalker : GoodIn wsX4_cost (va_wsS RX4 72 yX4_isWalker wsX4_isWalker) := goodIn_app (goodIn_of _ (by decide +kernel)) ggX4_cost_X4_isWalker
set_option maxRecDepth 20000 in
theorem ggX4_cost_X4_isPuddle : GoodIn wsX4_cost wsX4_isPuddle := goodIn_r _ [8] (by decide +kernel) (by decide +kernel)
set_option maxRecDepth 20000 in
theorem gX4_cost_X4_isPuddle : GoodIn wsX4_cost (va_wsS RX4 51 yX4_isPuddle wsX4_isPuddle) := goodIn_app (goodIn_of _ (by decide +kernel)) ggX4_cost_X4_isPuddle
set_option maxRecDepth 20000 in
theorem ggX4_cost_X3_costBySteps : GoodIn wsX4_cost wsX3_costBySteps := goodIn_r _ [13, 14, 15, 16, 17, 18, 4, 19, 20, 21, 22, 12, 23, 24, 25, 26, 27, 28, 29, 30, 31, 32, 33, 34, 35, 36, 37, 38, 39, 40, 41, 42, 43, 44, 45, 46, 47, 48, 49, 50, 51, 52, 53, 54, 55, 56, 57, 58, 59, 60, 73, 74, 75, 76, 77, 78, 79, 80, 81, 82, 83, 84, 85, 86, 87] (by decide +kernel) (by decide +kernel)
set_option maxRecDepth 20000 in
theorem gX4_cost_X3_costBySteps : GoodIn wsX4_cost (wsV RX4 176 RX3 yX3_costBySteps wsX3_costBySteps) := goodIn_app (goodIn_of _ (by decide +kernel)) ggX4_cost_X3_costBySteps
set_option maxRecDepth 20000 in
theorem ggX4_cost_X3_costByBlock : GoodIn wsX4_cost wsX3_costByBlock := goodIn_r _ [64, 65, 66, 67, 12, 68, 14, 15, 16, 17, 18, 4, 19, 20, 21, 22, 23, 24, 25, 26, 27, 28, 29, 30, 31, 32, 33, 34, 35, 36, 37, 38, 39, 40, 41, 42, 43, 44, 45, 46, 47, 48, 49, 50, 51, 52, 53, 54, 55, 56, 57, 58, 59, 60, 73, 74, 75, 76, 77, 78, 79, 80, 81, 82, 83, 84, 85, 86, 87] (by decide +kernel) (by decide +kernel)
set_option maxRecDepth 20000 in
theorem gX4_cost_X3_costByBlock : GoodIn wsX4_cost (wsV RX4 179 RX3 yX3_costByBlock wsX3_costByBlock) := goodIn_app (goodIn_of _ (by decide +kernel)) ggX4_cost_X3_costByBlock
theorem dX4_cost_0 : decode cX4_cost 0 = .ok (.iload_n 1, 1) := by decide +kernel
theorem dX4_cost_1 : decode cX4_cost 1 = .ok (.invokestatic 72, 3) := by decide +kernel
theorem dX4_cost_4 : decode cX4_cost 4 = .ok (.ifCond .eq 17, 3) := by decide +kernel
theorem dX4_cost_7 : decode cX4_cost 7 = .ok (.iload_n 2, 1) := by decide +kernel
theorem dX4_cost_8 : decode cX4_cost 8 = .ok (.invokestatic 51, 3) := by decide +kernel
theorem dX4_cost_11 : decode cX4_cost 11 = .ok (.ifCond .eq 10, 3) := by decide +kernel
theorem dX4_cost_14 : decode cX4_cost 14 = .ok (.iload_n 3, 1) := by decide +kernel
theorem dX4_cost_15 : decode cX4_cost 15 = .ok (.invokestatic 51, 3) := by decide +kernel
theorem dX4_cost_18 : decode cX4_cost 18 = .ok (.ifCond .ne 5, 3) := by decide +kernel
theorem dX4_cost_21 : decode cX4_cost 21 = .ok (.iconst (-1), 1) := by decide +kernel
theorem dX4_cost_22 : decode cX4_cost 22 = .ok (.ireturn, 1) := by decide +kernel
theorem dX4_cost_23 : decode cX4_cost 23 = .ok (.iload 4, 2) := by decide +kernel
theorem dX4_cost_25 : decode cX4_cost 25 = .ok (.ifCond .ne 14, 3) := by decide +kernel
theorem dX4_cost_28 : decode cX4_cost 28 = .ok (.aload_n 0, 1) := by decide +kernel
theorem dX4_cost_29 : decode cX4_cost 29 = .ok (.getfield 10, 3) := by decide +kernel
theorem dX4_cost_32 : decode cX4_cost 32 = .ok (.iload_n 1, 1) := by decide +kernel
theorem dX4_cost_33 : decode cX4_cost 33 = .ok (.iload_n 2, 1) := by decide +kernel
theorem dX4_cost_34 : decode cX4_cost 34 = .ok (.iload_n 3, 1) := by decide +kernel
theorem dX4_cost_35 : decode cX4_cost 35 = .ok (.invokevirtual 176, 3) := by decide +kernel
theorem dX4_cost_38 : decode cX4_cost 38 = .ok (.ireturn, 1) := by decide +kernel
theorem dX4_cost_39 : decode cX4_cost 39 = .ok (.iload 4, 2) := by decide +kernel
theorem dX4_cost_41 : decode cX4_cost 41 = .ok (.iconst 1, 1) := by decide +kernel
theorem dX4_cost_42 : decode cX4_cost 42 = .ok (.if_icmp .ne 14, 3) := by decide +kernel
theorem dX4_cost_45 : decode cX4_cost 45 = .ok (.aload_n 0, 1) := by decide +kernel
theorem dX4_cost_46 : decode cX4_cost 46 = .ok (.getfield 10, 3) := by decide +kernel
theorem dX4_cost_49 : decode cX4_cost 49 = .ok (.iload_n 1, 1) := by decide +kernel
theorem dX4_cost_50 : decode cX4_cost 50 = .ok (.iload_n 2, 1) := by decide +kernel
theorem dX4_cost_51 : decode cX4_cost 51 = .ok (.iload_n 3, 1) := by decide +kernel
theorem dX4_cost_52 : decode cX4_cost 52 = .ok (.invokevirtual 179, 3) := by decide +kernel
theorem dX4_cost_55 : decode cX4_cost 55 = .ok (.ireturn, 1) := by decide +kernel
theorem dX4_cost_56 : decode cX4_cost 56 = .ok (.bipush (-2), 2) := by decide +kernel
theorem dX4_cost_58 : decode cX4_cost 58 = .ok (.ireturn, 1) := by decide +kernel
set_option maxRecDepth 20000 in
theorem ggX4_untilDry_X4_isPuddle : GoodIn wsX4_untilDry wsX4_isPuddle := goodIn_r _ [7] (by decide +kernel) (by decide +kernel)
set_option maxRecDepth 20000 in
theorem gX4_untilDry_X4_isPuddle : GoodIn wsX4_untilDry (va_wsS RX4 51 yX4_isPuddle wsX4_isPuddle) := goodIn_app (goodIn_of _ (by decide +kernel)) ggX4_untilDry_X4_isPuddle
set_option maxRecDepth 20000 in
theorem ggX4_untilDry_X3_isFrozen : GoodIn wsX4_untilDry wsX3_isFrozen := goodIn_r _ [12, 13, 14, 6, 15, 20, 21, 22, 23, 24, 25, 26, 27, 28, 29, 30, 31, 32, 33, 34] (by decide +kernel) (by decide +kernel)
set_option maxRecDepth 20000 in
theorem gX4_untilDry_X3_isFrozen : GoodIn wsX4_untilDry (wsV RX4 137 RX3 yX3_isFrozen wsX3_isFrozen) := goodIn_app (goodIn_of _ (by decide +kernel)) ggX4_untilDry_X3_isFrozen
theorem dX4_untilDry_0 : decode cX4_untilDry 0 = .ok (.iload_n 1, 1) := by decide +kernel
theorem dX4_untilDry_1 : decode cX4_untilDry 1 = .ok (.invokestatic 51, 3) := by decide +kernel
theorem dX4_untilDry_4 : decode cX4_untilDry 4 = .ok (.ifCond .ne 5, 3) := by decide +kernel
theorem dX4_untilDry_7 : decode cX4_untilDry 7 = .ok (.iconst (-1), 1) := by decide +kernel
theorem dX4_untilDry_8 : decode cX4_untilDry 8 = .ok (.ireturn, 1) := by decide +kernel
theorem dX4_untilDry_9 : decode cX4_untilDry 9 = .ok (.aload_n 0, 1) := by decide +kernel
theorem dX4_untilDry_10 : decode cX4_untilDry 10 = .ok (.getfield 10, 3) := by decide +kernel
theorem dX4_untilDry_13 : decode cX4_untilDry 13 = .ok (.getfield 65, 3) := by decide +kernel
theorem dX4_untilDry_16 : decode cX4_untilDry 16 = .ok (.iload_n 1, 1) := by decide +kernel
theorem dX4_untilDry_17 : decode cX4_untilDry 17 = .ok (.iaload, 1) := by decide +kernel
theorem dX4_untilDry_18 : decode cX4_untilDry 18 = .ok (.istore_n 2, 1) := by decide +kernel
theorem dX4_untilDry_19 : decode cX4_untilDry 19 = .ok (.aload_n 0, 1) := by decide +kernel
theorem dX4_untilDry_20 : decode cX4_untilDry 20 = .ok (.getfield 10, 3) := by decide +kernel
theorem dX4_untilDry_23 : decode cX4_untilDry 23 = .ok (.getfield 48, 3) := by decide +kernel
theorem dX4_untilDry_26 : decode cX4_untilDry 26 = .ok (.iconst 1, 1) := by decide +kernel
theorem dX4_untilDry_27 : decode cX4_untilDry 27 = .ok (.iaload, 1) := by decide +kernel
theorem dX4_untilDry_28 : decode cX4_untilDry 28 = .ok (.istore_n 3, 1) := by decide +kernel
theorem dX4_untilDry_29 : decode cX4_untilDry 29 = .ok (.iload_n 2, 1) := by decide +kernel
theorem dX4_untilDry_30 : decode cX4_untilDry 30 = .ok (.ifCond .ne 5, 3) := by decide +kernel
theorem dX4_untilDry_33 : decode cX4_untilDry 33 = .ok (.iconst 0, 1) := by decide +kernel
theorem dX4_untilDry_34 : decode cX4_untilDry 34 = .ok (.ireturn, 1) := by decide +kernel
theorem dX4_untilDry_35 : decode cX4_untilDry 35 = .ok (.iload_n 3, 1) := by decide +kernel
theorem dX4_untilDry_36 : decode cX4_untilDry 36 = .ok (.ifCond .gt 6, 3) := by decide +kernel
theorem dX4_untilDry_39 : decode cX4_untilDry 39 = .ok (.bipush (-6), 2) := by decide +kernel
theorem dX4_untilDry_41 : decode cX4_untilDry 41 = .ok (.ireturn, 1) := by decide +kernel
theorem dX4_untilDry_42 : decode cX4_untilDry 42 = .ok (.iload_n 2, 1) := by decide +kernel
theorem dX4_untilDry_43 : decode cX4_untilDry 43 = .ok (.iload_n 3, 1) := by decide +kernel
theorem dX4_untilDry_44 : decode cX4_untilDry 44 = .ok (.iadd, 1) := by decide +kernel
theorem dX4_untilDry_45 : decode cX4_untilDry 45 = .ok (.iconst 1, 1) := by decide +kernel
theorem dX4_untilDry_46 : decode cX4_untilDry 46 = .ok (.isub, 1) := by decide +kernel
theorem dX4_untilDry_47 : decode cX4_untilDry 47 = .ok (.iload_n 3, 1) := by decide +kernel
theorem dX4_untilDry_48 : decode cX4_untilDry 48 = .ok (.idiv, 1) := by decide +kernel
theorem dX4_untilDry_49 : decode cX4_untilDry 49 = .ok (.istore 4, 2) := by decide +kernel
theorem dX4_untilDry_51 : decode cX4_untilDry 51 = .ok (.aload_n 0, 1) := by decide +kernel
theorem dX4_untilDry_52 : decode cX4_untilDry 52 = .ok (.getfield 10, 3) := by decide +kernel
theorem dX4_untilDry_55 : decode cX4_untilDry 55 = .ok (.iload_n 1, 1) := by decide +kernel
theorem dX4_untilDry_56 : decode cX4_untilDry 56 = .ok (.invokevirtual 137, 3) := by decide +kernel
theorem dX4_untilDry_59 : decode cX4_untilDry 59 = .ok (.ifCond .eq 10, 3) := by decide +kernel
theorem dX4_untilDry_62 : decode cX4_untilDry 62 = .ok (.iload 4, 2) := by decide +kernel
theorem dX4_untilDry_64 : decode cX4_untilDry 64 = .ok (.iconst 1, 1) := by decide +kernel
theorem dX4_untilDry_65 : decode cX4_untilDry 65 = .ok (.iadd, 1) := by decide +kernel
theorem dX4_untilDry_66 : decode cX4_untilDry 66 = .ok (.goto 5, 3) := by decide +kernel
theorem dX4_untilDry_69 : decode cX4_untilDry 69 = .ok (.iload 4, 2) := by decide +kernel
theorem dX4_untilDry_71 : decode cX4_untilDry 71 = .ok (.ireturn, 1) := by decide +kernel
set_option maxRecDepth 20000 in
theorem ggX4_leastShoes_X4_isWalker : GoodIn wsX4_leastShoes wsX4_isWalker := goodIn_r _ [5] (by decide +kernel) (by decide +kernel)
set_option maxRecDepth 20000 in
theorem gX4_leastShoes_X4_isWalker : GoodIn wsX4_leastShoes (va_wsS RX4 72 yX4_isWalker wsX4_isWalker) := goodIn_app (goodIn_of _ (by decide +kernel)) ggX4_leastShoes_X4_isWalker
set_option maxRecDepth 20000 in
theorem ggX4_leastShoes_X3_allowsAllWith : GoodIn wsX4_leastShoes wsX3_allowsAllWith := goodIn_r _ [10, 11, 12, 13, 9, 14, 15, 16, 17, 18, 19, 20, 4, 21, 22, 23, 24, 25, 26, 27, 28, 29, 30, 31, 32, 33, 34, 35, 36, 37, 38, 39, 40, 41, 46, 47, 48, 49, 50, 51, 52, 53, 54, 55, 56, 57, 58, 59, 60] (by decide +kernel) (by decide +kernel)
set_option maxRecDepth 20000 in
theorem gX4_leastShoes_X3_allowsAllWith : GoodIn wsX4_leastShoes (wsV RX4 182 RX3 yX3_allowsAllWith wsX3_allowsAllWith) := goodIn_app (goodIn_of _ (by decide +kernel)) ggX4_leastShoes_X3_allowsAllWith
theorem dX4_leastShoes_0 : decode cX4_leastShoes 0 = .ok (.iload_n 1, 1) := by decide +kernel
theorem dX4_leastShoes_1 : decode cX4_leastShoes 1 = .ok (.invokestatic 72, 3) := by decide +kernel
theorem dX4_leastShoes_4 : decode cX4_leastShoes 4 = .ok (.ifCond .ne 5, 3) := by decide +kernel
theorem dX4_leastShoes_7 : decode cX4_leastShoes 7 = .ok (.iconst (-1), 1) := by decide +kernel
theorem dX4_leastShoes_8 : decode cX4_leastShoes 8 = .ok (.ireturn, 1) := by decide +kernel
theorem dX4_leastShoes_9 : decode cX4_leastShoes 9 = .ok (.iconst 0, 1) := by decide +kernel
theorem dX4_leastShoes_10 : decode cX4_leastShoes 10 = .ok (.istore_n 2, 1) := by decide +kernel
theorem dX4_leastShoes_11 : decode cX4_leastShoes 11 = .ok (.iload_n 2, 1) := by decide +kernel
theorem dX4_leastShoes_12 : decode cX4_leastShoes 12 = .ok (.iconst 3, 1) := by decide +kernel
theorem dX4_leastShoes_13 : decode cX4_leastShoes 13 = .ok (.if_icmp .gt 23, 3) := by decide +kernel
theorem dX4_leastShoes_16 : decode cX4_leastShoes 16 = .ok (.aload_n 0, 1) := by decide +kernel
theorem dX4_leastShoes_17 : decode cX4_leastShoes 17 = .ok (.getfield 10, 3) := by decide +kernel
theorem dX4_leastShoes_20 : decode cX4_leastShoes 20 = .ok (.iload_n 1, 1) := by decide +kernel
theorem dX4_leastShoes_21 : decode cX4_leastShoes 21 = .ok (.iload_n 2, 1) := by decide +kernel
theorem dX4_leastShoes_22 : decode cX4_leastShoes 22 = .ok (.invokevirtual 182, 3) := by decide +kernel
theorem dX4_leastShoes_25 : decode cX4_leastShoes 25 = .ok (.ifCond .eq 5, 3) := by decide +kernel
theorem dX4_leastShoes_28 : decode cX4_leastShoes 28 = .ok (.iload_n 2, 1) := by decide +kernel
theorem dX4_leastShoes_29 : decode cX4_leastShoes 29 = .ok (.ireturn, 1) := by decide +kernel
theorem dX4_leastShoes_30 : decode cX4_leastShoes 30 = .ok (.iinc 2 1, 3) := by decide +kernel
theorem dX4_leastShoes_33 : decode cX4_leastShoes 33 = .ok (.goto (-22), 3) := by decide +kernel
theorem dX4_leastShoes_36 : decode cX4_leastShoes 36 = .ok (.bipush (-6), 2) := by decide +kernel
theorem dX4_leastShoes_38 : decode cX4_leastShoes 38 = .ok (.ireturn, 1) := by decide +kernel
set_option maxRecDepth 20000 in
theorem ggX4_longestWalk_X4_isWalker : GoodIn wsX4_longestWalk wsX4_isWalker := goodIn_r _ [5] (by decide +kernel) (by decide +kernel)
set_option maxRecDepth 20000 in
theorem gX4_longestWalk_X4_isWalker : GoodIn wsX4_longestWalk (va_wsS RX4 72 yX4_isWalker wsX4_isWalker) := goodIn_app (goodIn_of _ (by decide +kernel)) ggX4_longestWalk_X4_isWalker
set_option maxRecDepth 20000 in
theorem ggX4_longestWalk_X3_allowedFor : GoodIn wsX4_longestWalk wsX3_allowedFor := goodIn_r _ [10, 11, 12, 13, 9, 14, 15, 16, 17, 18, 19, 20, 21, 22, 23, 24, 25, 4, 26, 27, 28, 29, 30, 31, 32, 33, 34, 35, 36, 37, 38, 39, 40, 41, 42, 43, 44, 45, 46, 52, 53, 54, 55, 56, 57, 58, 59, 60, 61, 62, 63, 64, 65, 66] (by decide +kernel) (by decide +kernel)
set_option maxRecDepth 20000 in
theorem gX4_longestWalk_X3_allowedFor : GoodIn wsX4_longestWalk (wsV RX4 149 RX3 yX3_allowedFor wsX3_allowedFor) := goodIn_app (goodIn_of _ (by decide +kernel)) ggX4_longestWalk_X3_allowedFor
set_option maxRecDepth 20000 in
theorem ggX4_longestWalk_X4_isIn : GoodIn wsX4_longestWalk wsX4_isIn := goodIn_r _ [26] (by decide +kernel) (by decide +kernel)
set_option maxRecDepth 20000 in
theorem gX4_longestWalk_X4_isIn : GoodIn wsX4_longestWalk (va_wsS RX4 186 yX4_isIn wsX4_isIn) := goodIn_app (goodIn_of _ (by decide +kernel)) ggX4_longestWalk_X4_isIn
theorem dX4_longestWalk_0 : decode cX4_longestWalk 0 = .ok (.iload_n 1, 1) := by decide +kernel
theorem dX4_longestWalk_1 : decode cX4_longestWalk 1 = .ok (.invokestatic 72, 3) := by decide +kernel
theorem dX4_longestWalk_4 : decode cX4_longestWalk 4 = .ok (.ifCond .ne 5, 3) := by decide +kernel
theorem dX4_longestWalk_7 : decode cX4_longestWalk 7 = .ok (.iconst (-1), 1) := by decide +kernel
theorem dX4_longestWalk_8 : decode cX4_longestWalk 8 = .ok (.ireturn, 1) := by decide +kernel
theorem dX4_longestWalk_9 : decode cX4_longestWalk 9 = .ok (.iload_n 2, 1) := by decide +kernel
theorem dX4_longestWalk_10 : decode cX4_longestWalk 10 = .ok (.ifCond .eq 11, 3) := by decide +kernel
theorem dX4_longestWalk_13 : decode cX4_longestWalk 13 = .ok (.iload_n 2, 1) := by decide +kernel
theorem dX4_longestWalk_14 : decode cX4_longestWalk 14 = .ok (.iconst 1, 1) := by decide +kernel
theorem dX4_longestWalk_15 : decode cX4_longestWalk 15 = .ok (.if_icmp .eq 6, 3) := by decide +kernel
theorem dX4_longestWalk_18 : decode cX4_longestWalk 18 = .ok (.bipush (-2), 2) := by decide +kernel
theorem dX4_longestWalk_20 : decode cX4_longestWalk 20 = .ok (.ireturn, 1) := by decide +kernel
theorem dX4_longestWalk_21 : decode cX4_longestWalk 21 = .ok (.aload_n 0, 1) := by decide +kernel
theorem dX4_longestWalk_22 : decode cX4_longestWalk 22 = .ok (.getfield 10, 3) := by decide +kernel
theorem dX4_longestWalk_25 : decode cX4_longestWalk 25 = .ok (.iload_n 1, 1) := by decide +kernel
theorem dX4_longestWalk_26 : decode cX4_longestWalk 26 = .ok (.invokevirtual 149, 3) := by decide +kernel
theorem dX4_longestWalk_29 : decode cX4_longestWalk 29 = .ok (.istore_n 3, 1) := by decide +kernel
theorem dX4_longestWalk_30 : decode cX4_longestWalk 30 = .ok (.iconst 0, 1) := by decide +kernel
theorem dX4_longestWalk_31 : decode cX4_longestWalk 31 = .ok (.istore 4, 2) := by decide +kernel
theorem dX4_longestWalk_33 : decode cX4_longestWalk 33 = .ok (.iconst 0, 1) := by decide +kernel
theorem dX4_longestWalk_34 : decode cX4_longestWalk 34 = .ok (.istore 5, 2) := by decide +kernel
theorem dX4_longestWalk_36 : decode cX4_longestWalk 36 = .ok (.bipush (-6), 2) := by decide +kernel
theorem dX4_longestWalk_38 : decode cX4_longestWalk 38 = .ok (.istore 6, 2) := by decide +kernel
theorem dX4_longestWalk_40 : decode cX4_longestWalk 40 = .ok (.iconst 0, 1) := by decide +kernel
theorem dX4_longestWalk_41 : decode cX4_longestWalk 41 = .ok (.istore 7, 2) := by decide +kernel
theorem dX4_longestWalk_43 : decode cX4_longestWalk 43 = .ok (.iload 7, 2) := by decide +kernel
theorem dX4_longestWalk_45 : decode cX4_longestWalk 45 = .ok (.bipush 12, 2) := by decide +kernel
theorem dX4_longestWalk_47 : decode cX4_longestWalk 47 = .ok (.if_icmp .ge 48, 3) := by decide +kernel
theorem dX4_longestWalk_50 : decode cX4_longestWalk 50 = .ok (.iload_n 3, 1) := by decide +kernel
theorem dX4_longestWalk_51 : decode cX4_longestWalk 51 = .ok (.iload 7, 2) := by decide +kernel
theorem dX4_longestWalk_53 : decode cX4_longestWalk 53 = .ok (.invokestatic 186, 3) := by decide +kernel
theorem dX4_longestWalk_56 : decode cX4_longestWalk 56 = .ok (.ifCond .eq 10, 3) := by decide +kernel
theorem dX4_longestWalk_59 : decode cX4_longestWalk 59 = .ok (.iload 4, 2) := by decide +kernel
theorem dX4_longestWalk_61 : decode cX4_longestWalk 61 = .ok (.iconst 1, 1) := by decide +kernel
theorem dX4_longestWalk_62 : decode cX4_longestWalk 62 = .ok (.iadd, 1) := by decide +kernel
theorem dX4_longestWalk_63 : decode cX4_longestWalk 63 = .ok (.goto 4, 3) := by decide +kernel
theorem dX4_longestWalk_66 : decode cX4_longestWalk 66 = .ok (.iconst 0, 1) := by decide +kernel
theorem dX4_longestWalk_67 : decode cX4_longestWalk 67 = .ok (.istore 4, 2) := by decide +kernel
theorem dX4_longestWalk_69 : decode cX4_longestWalk 69 = .ok (.iload 4, 2) := by decide +kernel
theorem dX4_longestWalk_71 : decode cX4_longestWalk 71 = .ok (.iload 5, 2) := by decide +kernel
theorem dX4_longestWalk_73 : decode cX4_longestWalk 73 = .ok (.if_icmp .le 16, 3) := by decide +kernel
theorem dX4_longestWalk_76 : decode cX4_longestWalk 76 = .ok (.iload 4, 2) := by decide +kernel
theorem dX4_longestWalk_78 : decode cX4_longestWalk 78 = .ok (.istore 5, 2) := by decide +kernel
theorem dX4_longestWalk_80 : decode cX4_longestWalk 80 = .ok (.iload 7, 2) := by decide +kernel
theorem dX4_longestWalk_82 : decode cX4_longestWalk 82 = .ok (.iload 4, 2) := by decide +kernel
theorem dX4_longestWalk_84 : decode cX4_longestWalk 84 = .ok (.isub, 1) := by decide +kernel
theorem dX4_longestWalk_85 : decode cX4_longestWalk 85 = .ok (.iconst 1, 1) := by decide +kernel
theorem dX4_longestWalk_86 : decode cX4_longestWalk 86 = .ok (.iadd, 1) := by decide +kernel
theorem dX4_longestWalk_87 : decode cX4_longestWalk 87 = .ok (.istore 6, 2) := by decide +kernel
theorem dX4_longestWalk_89 : decode cX4_longestWalk 89 = .ok (.iinc 7 1, 3) := by decide +kernel
theorem dX4_longestWalk_92 : decode cX4_longestWalk 92 = .ok (.goto (-49), 3) := by decide +kernel
theorem dX4_longestWalk_95 : decode cX4_longestWalk 95 = .ok (.iload_n 2, 1) := by decide +kernel
theorem dX4_longestWalk_96 : decode cX4_longestWalk 96 = .ok (.ifCond .ne 8, 3) := by decide +kernel
theorem dX4_longestWalk_99 : decode cX4_longestWalk 99 = .ok (.iload 5, 2) := by decide +kernel
theorem dX4_longestWalk_101 : decode cX4_longestWalk 101 = .ok (.goto 5, 3) := by decide +kernel
theorem dX4_longestWalk_104 : decode cX4_longestWalk 104 = .ok (.iload 6, 2) := by decide +kernel
theorem dX4_longestWalk_106 : decode cX4_longestWalk 106 = .ok (.ireturn, 1) := by decide +kernel
theorem dX4_wipe_0 : decode cX4_wipe 0 = .ok (.aload_n 0, 1) := by decide +kernel
theorem dX4_wipe_1 : decode cX4_wipe 1 = .ok (.getfield 19, 3) := by decide +kernel
theorem dX4_wipe_4 : decode cX4_wipe 4 = .ok (.getfield 128, 3) := by decide +kernel
theorem dX4_wipe_7 : decode cX4_wipe 7 = .ok (.istore_n 1, 1) := by decide +kernel
theorem dX4_wipe_8 : decode cX4_wipe 8 = .ok (.aload_n 0, 1) := by decide +kernel
theorem dX4_wipe_9 : decode cX4_wipe 9 = .ok (.getfield 19, 3) := by decide +kernel
theorem dX4_wipe_12 : decode cX4_wipe 12 = .ok (.iconst 0, 1) := by decide +kernel
theorem dX4_wipe_13 : decode cX4_wipe 13 = .ok (.putfield 128, 3) := by decide +kernel
theorem dX4_wipe_16 : decode cX4_wipe 16 = .ok (.iload_n 1, 1) := by decide +kernel
theorem dX4_wipe_17 : decode cX4_wipe 17 = .ok (.ireturn, 1) := by decide +kernel
set_option maxRecDepth 20000 in
theorem ggX4_fault_X1_findFault : GoodIn wsX4_fault wsX1_findFault := goodIn_r _ [6, 7, 8, 9, 10, 5, 11, 12, 13, 14, 19, 20] (by decide +kernel) (by decide +kernel)
set_option maxRecDepth 20000 in
theorem gX4_fault_X1_findFault : GoodIn wsX4_fault (wsV RX4 121 RX1 yX1_findFault wsX1_findFault) := goodIn_app (goodIn_of _ (by decide +kernel)) ggX4_fault_X1_findFault
theorem dX4_fault_0 : decode cX4_fault 0 = .ok (.aload_n 0, 1) := by decide +kernel
theorem dX4_fault_1 : decode cX4_fault 1 = .ok (.getfield 19, 3) := by decide +kernel
theorem dX4_fault_4 : decode cX4_fault 4 = .ok (.invokevirtual 121, 3) := by decide +kernel
theorem dX4_fault_7 : decode cX4_fault 7 = .ok (.ireturn, 1) := by decide +kernel
set_option maxRecDepth 20000 in
theorem ggX4_undo_X0_takeBack : GoodIn wsX4_undo wsX0_takeBack := goodIn_r _ [8, 9, 10, 11, 12, 13, 14, 15, 16, 17, 18, 19, 20, 21, 22, 23, 24, 25, 26, 27, 28, 29, 30, 31, 32, 33, 38, 39, 40, 41, 42, 43, 44, 45, 46, 47, 48, 49, 50, 51, 52, 53, 54] (by decide +kernel) (by decide +kernel)
set_option maxRecDepth 20000 in
theorem gX4_undo_X0_takeBack : GoodIn wsX4_undo (wsV RX4 197 RX0 yX0_takeBack wsX0_takeBack) := goodIn_app (goodIn_of _ (by decide +kernel)) ggX4_undo_X0_takeBack
theorem dX4_undo_0 : decode cX4_undo 0 = .ok (.aload_n 0, 1) := by decide +kernel
theorem dX4_undo_1 : decode cX4_undo 1 = .ok (.getfield 26, 3) := by decide +kernel
theorem dX4_undo_4 : decode cX4_undo 4 = .ok (.getfield 173, 3) := by decide +kernel
theorem dX4_undo_7 : decode cX4_undo 7 = .ok (.ifCond .ne 6, 3) := by decide +kernel
theorem dX4_undo_10 : decode cX4_undo 10 = .ok (.bipush (-5), 2) := by decide +kernel
theorem dX4_undo_12 : decode cX4_undo 12 = .ok (.ireturn, 1) := by decide +kernel
theorem dX4_undo_13 : decode cX4_undo 13 = .ok (.aload_n 0, 1) := by decide +kernel
theorem dX4_undo_14 : decode cX4_undo 14 = .ok (.getfield 26, 3) := by decide +kernel
theorem dX4_undo_17 : decode cX4_undo 17 = .ok (.aload_n 0, 1) := by decide +kernel
theorem dX4_undo_18 : decode cX4_undo 18 = .ok (.getfield 10, 3) := by decide +kernel
theorem dX4_undo_21 : decode cX4_undo 21 = .ok (.invokevirtual 197, 3) := by decide +kernel
theorem dX4_undo_24 : decode cX4_undo 24 = .ok (.aload_n 0, 1) := by decide +kernel
theorem dX4_undo_25 : decode cX4_undo 25 = .ok (.getfield 26, 3) := by decide +kernel
theorem dX4_undo_28 : decode cX4_undo 28 = .ok (.getfield 173, 3) := by decide +kernel
theorem dX4_undo_31 : decode cX4_undo 31 = .ok (.ireturn, 1) := by decide +kernel
set_option maxRecDepth 20000 in
theorem ggX4_save_X3_copyFrom : GoodIn wsX4_save wsX3_copyFrom := goodIn_r _ [10, 11, 12, 13, 14, 15, 16, 17, 18, 19, 20, 21, 22, 23, 24, 25, 26, 27, 28, 35, 36, 37, 38, 39, 40, 41, 42, 43, 44, 45, 46, 47, 48, 49] (by decide +kernel) (by decide +kernel)
set_option maxRecDepth 20000 in
theorem gX4_save_X3_copyFrom : GoodIn wsX4_save (wsV RX4 204 RX3 yX3_copyFrom wsX3_copyFrom) := goodIn_app (goodIn_of _ (by decide +kernel)) ggX4_save_X3_copyFrom
theorem dX4_save_0 : decode cX4_save 0 = .ok (.iload_n 1, 1) := by decide +kernel
theorem dX4_save_1 : decode cX4_save 1 = .ok (.ifCond .lt 8, 3) := by decide +kernel
theorem dX4_save_4 : decode cX4_save 4 = .ok (.iload_n 1, 1) := by decide +kernel
theorem dX4_save_5 : decode cX4_save 5 = .ok (.iconst 2, 1) := by decide +kernel
theorem dX4_save_6 : decode cX4_save 6 = .ok (.if_icmp .lt 6, 3) := by decide +kernel
theorem dX4_save_9 : decode cX4_save 9 = .ok (.bipush (-2), 2) := by decide +kernel
theorem dX4_save_11 : decode cX4_save 11 = .ok (.ireturn, 1) := by decide +kernel
theorem dX4_save_12 : decode cX4_save 12 = .ok (.aload_n 0, 1) := by decide +kernel
theorem dX4_save_13 : decode cX4_save 13 = .ok (.getfield 33, 3) := by decide +kernel
theorem dX4_save_16 : decode cX4_save 16 = .ok (.getfield 200, 3) := by decide +kernel
theorem dX4_save_19 : decode cX4_save 19 = .ok (.iload_n 1, 1) := by decide +kernel
theorem dX4_save_20 : decode cX4_save 20 = .ok (.aaload, 1) := by decide +kernel
theorem dX4_save_21 : decode cX4_save 21 = .ok (.aload_n 0, 1) := by decide +kernel
theorem dX4_save_22 : decode cX4_save 22 = .ok (.getfield 10, 3) := by decide +kernel
theorem dX4_save_25 : decode cX4_save 25 = .ok (.invokevirtual 204, 3) := by decide +kernel
theorem dX4_save_28 : decode cX4_save 28 = .ok (.aload_n 0, 1) := by decide +kernel
theorem dX4_save_29 : decode cX4_save 29 = .ok (.getfield 33, 3) := by decide +kernel
theorem dX4_save_32 : decode cX4_save 32 = .ok (.getfield 207, 3) := by decide +kernel
theorem dX4_save_35 : decode cX4_save 35 = .ok (.iload_n 1, 1) := by decide +kernel
theorem dX4_save_36 : decode cX4_save 36 = .ok (.iconst 1, 1) := by decide +kernel
theorem dX4_save_37 : decode cX4_save 37 = .ok (.bastore, 1) := by decide +kernel
theorem dX4_save_38 : decode cX4_save 38 = .ok (.aload_n 0, 1) := by decide +kernel
theorem dX4_save_39 : decode cX4_save 39 = .ok (.getfield 10, 3) := by decide +kernel
theorem dX4_save_42 : decode cX4_save 42 = .ok (.getfield 110, 3) := by decide +kernel
theorem dX4_save_45 : decode cX4_save 45 = .ok (.ireturn, 1) := by decide +kernel
set_option maxRecDepth 20000 in
theorem ggX4_restore_X0_record : GoodIn wsX4_restore wsX0_record := goodIn_r _ [11, 12, 13, 14, 15, 16, 10, 17, 18, 19, 20, 21, 22, 23, 24, 25, 26, 27, 28, 29, 30, 31, 32, 33, 34, 35, 36, 37, 38, 39, 40, 63, 64, 48, 49, 50, 51, 52, 53, 54, 55, 56, 57, 58, 59, 60, 61, 62] (by decide +kernel) (by decide +kernel)
set_option maxRecDepth 20000 in
theorem gX4_restore_X0_record : GoodIn wsX4_restore (wsV RX4 44 RX0 yX0_record wsX0_record) := goodIn_app (goodIn_of _ (by decide +kernel)) ggX4_restore_X0_record
set_option maxRecDepth 20000 in
theorem ggX4_restore_X3_copyFrom : GoodIn wsX4_restore wsX3_copyFrom := goodIn_r _ [22, 23, 24, 25, 26, 27, 28, 29, 30, 31, 32, 33, 34, 35, 36, 37, 38, 39, 40, 48, 49, 50, 51, 52, 53, 54, 55, 56, 57, 58, 59, 60, 61, 62] (by decide +kernel) (by decide +kernel)
set_option maxRecDepth 20000 in
theorem gX4_restore_X3_copyFrom : GoodIn wsX4_restore (wsV RX4 204 RX3 yX3_copyFrom wsX3_copyFrom) := goodIn_app (goodIn_of _ (by decide +kernel)) ggX4_restore_X3_copyFrom
theorem dX4_restore_0 : decode cX4_restore 0 = .ok (.iload_n 1, 1) := by decide +kernel
theorem dX4_restore_1 : decode cX4_restore 1 = .ok (.ifCond .lt 8, 3) := by decide +kernel
theorem dX4_restore_4 : decode cX4_restore 4 = .ok (.iload_n 1, 1) := by decide +kernel
theorem dX4_restore_5 : decode cX4_restore 5 = .ok (.iconst 2, 1) := by decide +kernel
theorem dX4_restore_6 : decode cX4_restore 6 = .ok (.if_icmp .lt 6, 3) := by decide +kernel
theorem dX4_restore_9 : decode cX4_restore 9 = .ok (.bipush (-2), 2) := by decide +kernel
theorem dX4_restore_11 : decode cX4_restore 11 = .ok (.ireturn, 1) := by decide +kernel
theorem dX4_restore_12 : decode cX4_restore 12 = .ok (.aload_n 0, 1) := by decide +kernel
theorem dX4_restore_13 : decode cX4_restore 13 = .ok (.getfield 33, 3) := by decide +kernel
theorem dX4_restore_16 : decode cX4_restore 16 = .ok (.getfield 207, 3) := by decide +kernel
theorem dX4_restore_19 : decode cX4_restore 19 = .ok (.iload_n 1, 1) := by decide +kernel
theorem dX4_restore_20 : decode cX4_restore 20 = .ok (.baload, 1) := by decide +kernel
theorem dX4_restore_21 : decode cX4_restore 21 = .ok (.ifCond .ne 6, 3) := by decide +kernel
theorem dX4_restore_24 : decode cX4_restore 24 = .ok (.bipush (-5), 2) := by decide +kernel
theorem dX4_restore_26 : decode cX4_restore 26 = .ok (.ireturn, 1) := by decide +kernel
theorem dX4_restore_27 : decode cX4_restore 27 = .ok (.aload_n 0, 1) := by decide +kernel
theorem dX4_restore_28 : decode cX4_restore 28 = .ok (.getfield 26, 3) := by decide +kernel
theorem dX4_restore_31 : decode cX4_restore 31 = .ok (.aload_n 0, 1) := by decide +kernel
theorem dX4_restore_32 : decode cX4_restore 32 = .ok (.getfield 10, 3) := by decide +kernel
theorem dX4_restore_35 : decode cX4_restore 35 = .ok (.invokevirtual 44, 3) := by decide +kernel
theorem dX4_restore_38 : decode cX4_restore 38 = .ok (.aload_n 0, 1) := by decide +kernel
theorem dX4_restore_39 : decode cX4_restore 39 = .ok (.getfield 10, 3) := by decide +kernel
theorem dX4_restore_42 : decode cX4_restore 42 = .ok (.aload_n 0, 1) := by decide +kernel
theorem dX4_restore_43 : decode cX4_restore 43 = .ok (.getfield 33, 3) := by decide +kernel
theorem dX4_restore_46 : decode cX4_restore 46 = .ok (.getfield 200, 3) := by decide +kernel
theorem dX4_restore_49 : decode cX4_restore 49 = .ok (.iload_n 1, 1) := by decide +kernel
theorem dX4_restore_50 : decode cX4_restore 50 = .ok (.aaload, 1) := by decide +kernel
theorem dX4_restore_51 : decode cX4_restore 51 = .ok (.invokevirtual 204, 3) := by decide +kernel
theorem dX4_restore_54 : decode cX4_restore 54 = .ok (.aload_n 0, 1) := by decide +kernel
theorem dX4_restore_55 : decode cX4_restore 55 = .ok (.getfield 10, 3) := by decide +kernel
theorem dX4_restore_58 : decode cX4_restore 58 = .ok (.getfield 110, 3) := by decide +kernel
theorem dX4_restore_61 : decode cX4_restore 61 = .ok (.ireturn, 1) := by decide +kernel
theorem dX4_isPuddle_0 : decode cX4_isPuddle 0 = .ok (.iload_n 0, 1) := by decide +kernel
theorem dX4_isPuddle_1 : decode cX4_isPuddle 1 = .ok (.ifCond .lt 13, 3) := by decide +kernel
theorem dX4_isPuddle_4 : decode cX4_isPuddle 4 = .ok (.iload_n 0, 1) := by decide +kernel
theorem dX4_isPuddle_5 : decode cX4_isPuddle 5 = .ok (.bipush 12, 2) := by decide +kernel
theorem dX4_isPuddle_7 : decode cX4_isPuddle 7 = .ok (.if_icmp .ge 7, 3) := by decide +kernel
theorem dX4_isPuddle_10 : decode cX4_isPuddle 10 = .ok (.iconst 1, 1) := by decide +kernel
theorem dX4_isPuddle_11 : decode cX4_isPuddle 11 = .ok (.goto 4, 3) := by decide +kernel
theorem dX4_isPuddle_14 : decode cX4_isPuddle 14 = .ok (.iconst 0, 1) := by decide +kernel
theorem dX4_isPuddle_15 : decode cX4_isPuddle 15 = .ok (.ireturn, 1) := by decide +kernel
theorem dX4_isWalker_0 : decode cX4_isWalker 0 = .ok (.iload_n 0, 1) := by decide +kernel
theorem dX4_isWalker_1 : decode cX4_isWalker 1 = .ok (.ifCond .lt 13, 3) := by decide +kernel
theorem dX4_isWalker_4 : decode cX4_isWalker 4 = .ok (.iload_n 0, 1) := by decide +kernel
theorem dX4_isWalker_5 : decode cX4_isWalker 5 = .ok (.bipush 6, 2) := by decide +kernel
theorem dX4_isWalker_7 : decode cX4_isWalker 7 = .ok (.if_icmp .ge 7, 3) := by decide +kernel
theorem dX4_isWalker_10 : decode cX4_isWalker 10 = .ok (.iconst 1, 1) := by decide +kernel
theorem dX4_isWalker_11 : decode cX4_isWalker 11 = .ok (.goto 4, 3) := by decide +kernel
theorem dX4_isWalker_14 : decode cX4_isWalker 14 = .ok (.iconst 0, 1) := by decide +kernel
theorem dX4_isWalker_15 : decode cX4_isWalker 15 = .ok (.ireturn, 1) := by decide +kernel
theorem dX4_isIn_0 : decode cX4_isIn 0 = .ok (.iload_n 0, 1) := by decide +kernel
theorem dX4_isIn_1 : decode cX4_isIn 1 = .ok (.iload_n 1, 1) := by decide +kernel
theorem dX4_isIn_2 : decode cX4_isIn 2 = .ok (.ishr, 1) := by decide +kernel
theorem dX4_isIn_3 : decode cX4_isIn 3 = .ok (.iconst 1, 1) := by decide +kernel
theorem dX4_isIn_4 : decode cX4_isIn 4 = .ok (.iand, 1) := by decide +kernel
theorem dX4_isIn_5 : decode cX4_isIn 5 = .ok (.iconst 1, 1) := by decide +kernel
theorem dX4_isIn_6 : decode cX4_isIn 6 = .ok (.if_icmp .ne 7, 3) := by decide +kernel
theorem dX4_isIn_9 : decode cX4_isIn 9 = .ok (.iconst 1, 1) := by decide +kernel
theorem dX4_isIn_10 : decode cX4_isIn 10 = .ok (.goto 4, 3) := by decide +kernel
theorem dX4_isIn_13 : decode cX4_isIn 13 = .ok (.iconst 0, 1) := by decide +kernel
theorem dX4_isIn_14 : decode cX4_isIn 14 = .ok (.ireturn, 1) := by decide +kernel
theorem dX4_placeOf_0 : decode cX4_placeOf 0 = .ok (.iload_n 0, 1) := by decide +kernel
theorem dX4_placeOf_1 : decode cX4_placeOf 1 = .ok (.bipush 12, 2) := by decide +kernel
theorem dX4_placeOf_3 : decode cX4_placeOf 3 = .ok (.imul, 1) := by decide +kernel
theorem dX4_placeOf_4 : decode cX4_placeOf 4 = .ok (.iload_n 1, 1) := by decide +kernel
theorem dX4_placeOf_5 : decode cX4_placeOf 5 = .ok (.iadd, 1) := by decide +kernel
theorem dX4_placeOf_6 : decode cX4_placeOf 6 = .ok (.ireturn, 1) := by decide +kernel
theorem dX4_placeAfter_0 : decode cX4_placeAfter 0 = .ok (.iload_n 1, 1) := by decide +kernel
theorem dX4_placeAfter_1 : decode cX4_placeAfter 1 = .ok (.iload_n 2, 1) := by decide +kernel
theorem dX4_placeAfter_2 : decode cX4_placeAfter 2 = .ok (.if_icmp .gt 9, 3) := by decide +kernel
theorem dX4_placeAfter_5 : decode cX4_placeAfter 5 = .ok (.iload_n 1, 1) := by decide +kernel
theorem dX4_placeAfter_6 : decode cX4_placeAfter 6 = .ok (.iload_n 0, 1) := by decide +kernel
theorem dX4_placeAfter_7 : decode cX4_placeAfter 7 = .ok (.iadd, 1) := by decide +kernel
theorem dX4_placeAfter_8 : decode cX4_placeAfter 8 = .ok (.goto 6, 3) := by decide +kernel
theorem dX4_placeAfter_11 : decode cX4_placeAfter 11 = .ok (.iload_n 1, 1) := by decide +kernel
theorem dX4_placeAfter_12 : decode cX4_placeAfter 12 = .ok (.iload_n 0, 1) := by decide +kernel
theorem dX4_placeAfter_13 : decode cX4_placeAfter 13 = .ok (.isub, 1) := by decide +kernel
theorem dX4_placeAfter_14 : decode cX4_placeAfter 14 = .ok (.ireturn, 1) := by decide +kernel
theorem dX4_sum_0 : decode cX4_sum 0 = .ok (.iconst 0, 1) := by decide +kernel
theorem dX4_sum_1 : decode cX4_sum 1 = .ok (.istore_n 1, 1) := by decide +kernel
theorem dX4_sum_2 : decode cX4_sum 2 = .ok (.aload_n 0, 1) := by decide +kernel
theorem dX4_sum_3 : decode cX4_sum 3 = .ok (.astore_n 2, 1) := by decide +kernel
theorem dX4_sum_4 : decode cX4_sum 4 = .ok (.aload_n 2, 1) := by decide +kernel
theorem dX4_sum_5 : decode cX4_sum 5 = .ok (.arraylength, 1) := by decide +kernel
theorem dX4_sum_6 : decode cX4_sum 6 = .ok (.istore_n 3, 1) := by decide +kernel
theorem dX4_sum_7 : decode cX4_sum 7 = .ok (.iconst 0, 1) := by decide +kernel
theorem dX4_sum_8 : decode cX4_sum 8 = .ok (.istore 4, 2) := by decide +kernel
theorem dX4_sum_10 : decode cX4_sum 10 = .ok (.iload 4, 2) := by decide +kernel
theorem dX4_sum_12 : decode cX4_sum 12 = .ok (.iload_n 3, 1) := by decide +kernel
theorem dX4_sum_13 : decode cX4_sum 13 = .ok (.if_icmp .ge 20, 3) := by decide +kernel
theorem dX4_sum_16 : decode cX4_sum 16 = .ok (.aload_n 2, 1) := by decide +kernel
theorem dX4_sum_17 : decode cX4_sum 17 = .ok (.iload 4, 2) := by decide +kernel
theorem dX4_sum_19 : decode cX4_sum 19 = .ok (.iaload, 1) := by decide +kernel
theorem dX4_sum_20 : decode cX4_sum 20 = .ok (.istore 5, 2) := by decide +kernel
theorem dX4_sum_22 : decode cX4_sum 22 = .ok (.iload_n 1, 1) := by decide +kernel
theorem dX4_sum_23 : decode cX4_sum 23 = .ok (.iload 5, 2) := by decide +kernel
theorem dX4_sum_25 : decode cX4_sum 25 = .ok (.iadd, 1) := by decide +kernel
theorem dX4_sum_26 : decode cX4_sum 26 = .ok (.istore_n 1, 1) := by decide +kernel
theorem dX4_sum_27 : decode cX4_sum 27 = .ok (.iinc 4 1, 3) := by decide +kernel
theorem dX4_sum_30 : decode cX4_sum 30 = .ok (.goto (-20), 3) := by decide +kernel
theorem dX4_sum_33 : decode cX4_sum 33 = .ok (.iload_n 1, 1) := by decide +kernel
theorem dX4_sum_34 : decode cX4_sum 34 = .ok (.ireturn, 1) := by decide +kernel
theorem dX4_copy_0 : decode cX4_copy 0 = .ok (.iconst 0, 1) := by decide +kernel
theorem dX4_copy_1 : decode cX4_copy 1 = .ok (.istore_n 2, 1) := by decide +kernel
theorem dX4_copy_2 : decode cX4_copy 2 = .ok (.iload_n 2, 1) := by decide +kernel
theorem dX4_copy_3 : decode cX4_copy 3 = .ok (.aload_n 0, 1) := by decide +kernel
theorem dX4_copy_4 : decode cX4_copy 4 = .ok (.arraylength, 1) := by decide +kernel
theorem dX4_copy_5 : decode cX4_copy 5 = .ok (.if_icmp .ge 21, 3) := by decide +kernel
theorem dX4_copy_8 : decode cX4_copy 8 = .ok (.iload_n 2, 1) := by decide +kernel
theorem dX4_copy_9 : decode cX4_copy 9 = .ok (.aload_n 1, 1) := by decide +kernel
theorem dX4_copy_10 : decode cX4_copy 10 = .ok (.arraylength, 1) := by decide +kernel
theorem dX4_copy_11 : decode cX4_copy 11 = .ok (.if_icmp .ge 15, 3) := by decide +kernel
theorem dX4_copy_14 : decode cX4_copy 14 = .ok (.aload_n 1, 1) := by decide +kernel
theorem dX4_copy_15 : decode cX4_copy 15 = .ok (.iload_n 2, 1) := by decide +kernel
theorem dX4_copy_16 : decode cX4_copy 16 = .ok (.aload_n 0, 1) := by decide +kernel
theorem dX4_copy_17 : decode cX4_copy 17 = .ok (.iload_n 2, 1) := by decide +kernel
theorem dX4_copy_18 : decode cX4_copy 18 = .ok (.iaload, 1) := by decide +kernel
theorem dX4_copy_19 : decode cX4_copy 19 = .ok (.iastore, 1) := by decide +kernel
theorem dX4_copy_20 : decode cX4_copy 20 = .ok (.iinc 2 1, 3) := by decide +kernel
theorem dX4_copy_23 : decode cX4_copy 23 = .ok (.goto (-21), 3) := by decide +kernel
theorem dX4_copy_26 : decode cX4_copy 26 = .ok (.return_, 1) := by decide +kernel
theorem dJ6_bitCount_0f7a4_0 : decode cJ6_bitCount_0f7a4 0 = .ok (.iload_n 0, 1) := by decide +kernel
theorem dJ6_bitCount_0f7a4_1 : decode cJ6_bitCount_0f7a4 1 = .ok (.iload_n 0, 1) := by decide +kernel
theorem dJ6_bitCount_0f7a4_2 : decode cJ6_bitCount_0f7a4 2 = .ok (.iconst 1, 1) := by decide +kernel
theorem dJ6_bitCount_0f7a4_3 : decode cJ6_bitCount_0f7a4 3 = .ok (.iushr, 1) := by decide +kernel
theorem dJ6_bitCount_0f7a4_4 : decode cJ6_bitCount_0f7a4 4 = .ok (.ldc_w 265, 3) := by decide +kernel
theorem dJ6_bitCount_0f7a4_7 : decode cJ6_bitCount_0f7a4 7 = .ok (.iand, 1) := by decide +kernel
theorem dJ6_bitCount_0f7a4_8 : decode cJ6_bitCount_0f7a4 8 = .ok (.isub, 1) := by decide +kernel
theorem dJ6_bitCount_0f7a4_9 : decode cJ6_bitCount_0f7a4 9 = .ok (.istore_n 0, 1) := by decide +kernel
theorem dJ6_bitCount_0f7a4_10 : decode cJ6_bitCount_0f7a4 10 = .ok (.iload_n 0, 1) := by decide +kernel
theorem dJ6_bitCount_0f7a4_11 : decode cJ6_bitCount_0f7a4 11 = .ok (.ldc_w 266, 3) := by decide +kernel
theorem dJ6_bitCount_0f7a4_14 : decode cJ6_bitCount_0f7a4 14 = .ok (.iand, 1) := by decide +kernel
theorem dJ6_bitCount_0f7a4_15 : decode cJ6_bitCount_0f7a4 15 = .ok (.iload_n 0, 1) := by decide +kernel
theorem dJ6_bitCount_0f7a4_16 : decode cJ6_bitCount_0f7a4 16 = .ok (.iconst 2, 1) := by decide +kernel
theorem dJ6_bitCount_0f7a4_17 : decode cJ6_bitCount_0f7a4 17 = .ok (.iushr, 1) := by decide +kernel
theorem dJ6_bitCount_0f7a4_18 : decode cJ6_bitCount_0f7a4 18 = .ok (.ldc_w 266, 3) := by decide +kernel
theorem dJ6_bitCount_0f7a4_21 : decode cJ6_bitCount_0f7a4 21 = .ok (.iand, 1) := by decide +kernel
theorem dJ6_bitCount_0f7a4_22 : decode cJ6_bitCount_0f7a4 22 = .ok (.iadd, 1) := by decide +kernel
theorem dJ6_bitCount_0f7a4_23 : decode cJ6_bitCount_0f7a4 23 = .ok (.istore_n 0, 1) := by decide +kernel
theorem dJ6_bitCount_0f7a4_24 : decode cJ6_bitCount_0f7a4 24 = .ok (.iload_n 0, 1) := by decide +kernel
theorem dJ6_bitCount_0f7a4_25 : decode cJ6_bitCount_0f7a4 25 = .ok (.iload_n 0, 1) := by decide +kernel
theorem dJ6_bitCount_0f7a4_26 : decode cJ6_bitCount_0f7a4 26 = .ok (.iconst 4, 1) := by decide +kernel
theorem dJ6_bitCount_0f7a4_27 : decode cJ6_bitCount_0f7a4 27 = .ok (.iushr, 1) := by decide +kernel
theorem dJ6_bitCount_0f7a4_28 : decode cJ6_bitCount_0f7a4 28 = .ok (.iadd, 1) := by decide +kernel
theorem dJ6_bitCount_0f7a4_29 : decode cJ6_bitCount_0f7a4 29 = .ok (.ldc_w 267, 3) := by decide +kernel
theorem dJ6_bitCount_0f7a4_32 : decode cJ6_bitCount_0f7a4 32 = .ok (.iand, 1) := by decide +kernel
theorem dJ6_bitCount_0f7a4_33 : decode cJ6_bitCount_0f7a4 33 = .ok (.istore_n 0, 1) := by decide +kernel
theorem dJ6_bitCount_0f7a4_34 : decode cJ6_bitCount_0f7a4 34 = .ok (.iload_n 0, 1) := by decide +kernel
theorem dJ6_bitCount_0f7a4_35 : decode cJ6_bitCount_0f7a4 35 = .ok (.iload_n 0, 1) := by decide +kernel
theorem dJ6_bitCount_0f7a4_36 : decode cJ6_bitCount_0f7a4 36 = .ok (.bipush 8, 2) := by decide +kernel
theorem dJ6_bitCount_0f7a4_38 : decode cJ6_bitCount_0f7a4 38 = .ok (.iushr, 1) := by decide +kernel
theorem dJ6_bitCount_0f7a4_39 : decode cJ6_bitCount_0f7a4 39 = .ok (.iadd, 1) := by decide +kernel
theorem dJ6_bitCount_0f7a4_40 : decode cJ6_bitCount_0f7a4 40 = .ok (.istore_n 0, 1) := by decide +kernel
theorem dJ6_bitCount_0f7a4_41 : decode cJ6_bitCount_0f7a4 41 = .ok (.iload_n 0, 1) := by decide +kernel
theorem dJ6_bitCount_0f7a4_42 : decode cJ6_bitCount_0f7a4 42 = .ok (.iload_n 0, 1) := by decide +kernel
theorem dJ6_bitCount_0f7a4_43 : decode cJ6_bitCount_0f7a4 43 = .ok (.bipush 16, 2) := by decide +kernel
theorem dJ6_bitCount_0f7a4_45 : decode cJ6_bitCount_0f7a4 45 = .ok (.iushr, 1) := by decide +kernel
theorem dJ6_bitCount_0f7a4_46 : decode cJ6_bitCount_0f7a4 46 = .ok (.iadd, 1) := by decide +kernel
theorem dJ6_bitCount_0f7a4_47 : decode cJ6_bitCount_0f7a4 47 = .ok (.istore_n 0, 1) := by decide +kernel
theorem dJ6_bitCount_0f7a4_48 : decode cJ6_bitCount_0f7a4 48 = .ok (.iload_n 0, 1) := by decide +kernel
theorem dJ6_bitCount_0f7a4_49 : decode cJ6_bitCount_0f7a4 49 = .ok (.bipush 63, 2) := by decide +kernel
theorem dJ6_bitCount_0f7a4_51 : decode cJ6_bitCount_0f7a4 51 = .ok (.iand, 1) := by decide +kernel
theorem dJ6_bitCount_0f7a4_52 : decode cJ6_bitCount_0f7a4 52 = .ok (.ireturn, 1) := by decide +kernel
theorem dJ9_abs_0f7a4_0 : decode cJ9_abs_0f7a4 0 = .ok (.iload_n 0, 1) := by decide +kernel
theorem dJ9_abs_0f7a4_1 : decode cJ9_abs_0f7a4 1 = .ok (.ifCond .ge 8, 3) := by decide +kernel
theorem dJ9_abs_0f7a4_4 : decode cJ9_abs_0f7a4 4 = .ok (.iload_n 0, 1) := by decide +kernel
theorem dJ9_abs_0f7a4_5 : decode cJ9_abs_0f7a4 5 = .ok (.ineg, 1) := by decide +kernel
theorem dJ9_abs_0f7a4_6 : decode cJ9_abs_0f7a4 6 = .ok (.goto 4, 3) := by decide +kernel
theorem dJ9_abs_0f7a4_9 : decode cJ9_abs_0f7a4 9 = .ok (.iload_n 0, 1) := by decide +kernel
theorem dJ9_abs_0f7a4_10 : decode cJ9_abs_0f7a4 10 = .ok (.ireturn, 1) := by decide +kernel
theorem dJ9_min_7cf53_0 : decode cJ9_min_7cf53 0 = .ok (.iload_n 0, 1) := by decide +kernel
theorem dJ9_min_7cf53_1 : decode cJ9_min_7cf53 1 = .ok (.iload_n 1, 1) := by decide +kernel
theorem dJ9_min_7cf53_2 : decode cJ9_min_7cf53 2 = .ok (.if_icmp .gt 7, 3) := by decide +kernel
theorem dJ9_min_7cf53_5 : decode cJ9_min_7cf53 5 = .ok (.iload_n 0, 1) := by decide +kernel
theorem dJ9_min_7cf53_6 : decode cJ9_min_7cf53 6 = .ok (.goto 4, 3) := by decide +kernel
theorem dJ9_min_7cf53_9 : decode cJ9_min_7cf53 9 = .ok (.iload_n 1, 1) := by decide +kernel
theorem dJ9_min_7cf53_10 : decode cJ9_min_7cf53 10 = .ok (.ireturn, 1) := by decide +kernel
theorem dL_cell_0 : decode cL_cell 0 = .ok (.iload_n 1, 1) := by decide +kernel
theorem dL_cell_1 : decode cL_cell 1 = .ok (.aload_n 0, 1) := by decide +kernel
theorem dL_cell_2 : decode cL_cell 2 = .ok (.arraylength, 1) := by decide +kernel
theorem dL_cell_3 : decode cL_cell 3 = .ok (.if_icmp .ge 9, 3) := by decide +kernel
theorem dL_cell_6 : decode cL_cell 6 = .ok (.aload_n 0, 1) := by decide +kernel
theorem dL_cell_7 : decode cL_cell 7 = .ok (.iload_n 1, 1) := by decide +kernel
theorem dL_cell_8 : decode cL_cell 8 = .ok (.iaload, 1) := by decide +kernel
theorem dL_cell_9 : decode cL_cell 9 = .ok (.goto 14, 3) := by decide +kernel
theorem dL_cell_12 : decode cL_cell 12 = .ok (.ldc 7, 2) := by decide +kernel
theorem dL_cell_14 : decode cL_cell 14 = .ok (.iload_n 1, 1) := by decide +kernel
theorem dL_cell_15 : decode cL_cell 15 = .ok (.sipush 467, 3) := by decide +kernel
theorem dL_cell_18 : decode cL_cell 18 = .ok (.iadd, 1) := by decide +kernel
theorem dL_cell_19 : decode cL_cell 19 = .ok (.imul, 1) := by decide +kernel
theorem dL_cell_20 : decode cL_cell 20 = .ok (.ldc 8, 2) := by decide +kernel
theorem dL_cell_22 : decode cL_cell 22 = .ok (.iadd, 1) := by decide +kernel
theorem dL_cell_23 : decode cL_cell 23 = .ok (.ldc 9, 2) := by decide +kernel
theorem dL_cell_25 : decode cL_cell 25 = .ok (.iand, 1) := by decide +kernel
theorem dL_cell_26 : decode cL_cell 26 = .ok (.ireturn, 1) := by decide +kernel
