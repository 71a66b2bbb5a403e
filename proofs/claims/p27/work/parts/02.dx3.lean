set_option maxRecDepth 20000 in
theorem ggX0_init_X3_init : GoodIn wsX0_init wsX3_init := goodIn_r _ [10, 11, 2, 3, 12, 13, 14, 15, 16, 17, 18, 19, 20, 21, 24, 25, 26, 27, 28, 29, 30, 31, 32, 33, 34, 35, 36, 37, 38] (by decide +kernel) (by decide +kernel)
set_option maxRecDepth 20000 in
theorem gX0_init_X3_init : GoodIn wsX0_init (wsX3_init) := ggX0_init_X3_init
theorem dX0_init_0 : decode cX0_init 0 = .ok (.aload_n 0, 1) := by decide +kernel
theorem dX0_init_1 : decode cX0_init 1 = .ok (.invokespecial 3, 3) := by decide +kernel
theorem dX0_init_4 : decode cX0_init 4 = .ok (.aload_n 0, 1) := by decide +kernel
theorem dX0_init_5 : decode cX0_init 5 = .ok (.bipush 6, 2) := by decide +kernel
theorem dX0_init_7 : decode cX0_init 7 = .ok (.anewarray 9, 3) := by decide +kernel
theorem dX0_init_10 : decode cX0_init 10 = .ok (.putfield 11, 3) := by decide +kernel
theorem dX0_init_13 : decode cX0_init 13 = .ok (.iconst 0, 1) := by decide +kernel
theorem dX0_init_14 : decode cX0_init 14 = .ok (.istore_n 1, 1) := by decide +kernel
theorem dX0_init_15 : decode cX0_init 15 = .ok (.iload_n 1, 1) := by decide +kernel
theorem dX0_init_16 : decode cX0_init 16 = .ok (.bipush 6, 2) := by decide +kernel
theorem dX0_init_18 : decode cX0_init 18 = .ok (.if_icmp .ge 22, 3) := by decide +kernel
theorem dX0_init_21 : decode cX0_init 21 = .ok (.aload_n 0, 1) := by decide +kernel
theorem dX0_init_22 : decode cX0_init 22 = .ok (.getfield 11, 3) := by decide +kernel
theorem dX0_init_25 : decode cX0_init 25 = .ok (.iload_n 1, 1) := by decide +kernel
theorem dX0_init_26 : decode cX0_init 26 = .ok (.new 9, 3) := by decide +kernel
theorem dX0_init_29 : decode cX0_init 29 = .ok (.dup, 1) := by decide +kernel
theorem dX0_init_30 : decode cX0_init 30 = .ok (.invokespecial 17, 3) := by decide +kernel
theorem dX0_init_33 : decode cX0_init 33 = .ok (.aastore, 1) := by decide +kernel
theorem dX0_init_34 : decode cX0_init 34 = .ok (.iinc 1 1, 3) := by decide +kernel
theorem dX0_init_37 : decode cX0_init 37 = .ok (.goto (-22), 3) := by decide +kernel
theorem dX0_init_40 : decode cX0_init 40 = .ok (.return_, 1) := by decide +kernel
set_option maxRecDepth 20000 in
theorem ggX0_record_X0_dropOldest : GoodIn wsX0_record wsX0_dropOldest := goodIn_r _ [7, 2, 1, 31, 32] (by decide +kernel) (by decide +kernel)
set_option maxRecDepth 20000 in
theorem gX0_record_X0_dropOldest : GoodIn wsX0_record (wsV RX0 22 RX0 yX0_dropOldest wsX0_dropOldest) := goodIn_app (goodIn_of _ (by decide +kernel)) ggX0_record_X0_dropOldest
set_option maxRecDepth 20000 in
theorem ggX0_record_X3_copyFrom : GoodIn wsX0_record wsX3_copyFrom := goodIn_r _ [12, 13, 14, 15, 16, 17, 18, 19, 20, 21, 22, 23, 24, 25, 26, 27, 28, 29, 30, 33, 34, 35, 36, 37, 38, 39, 40, 41, 42, 43, 44, 45, 46, 47] (by decide +kernel) (by decide +kernel)
set_option maxRecDepth 20000 in
theorem gX0_record_X3_copyFrom : GoodIn wsX0_record (wsV RX0 25 RX3 yX3_copyFrom wsX3_copyFrom) := goodIn_app (goodIn_of _ (by decide +kernel)) ggX0_record_X3_copyFrom
theorem dX0_record_0 : decode cX0_record 0 = .ok (.aload_n 0, 1) := by decide +kernel
theorem dX0_record_1 : decode cX0_record 1 = .ok (.getfield 18, 3) := by decide +kernel
theorem dX0_record_4 : decode cX0_record 4 = .ok (.bipush 6, 2) := by decide +kernel
theorem dX0_record_6 : decode cX0_record 6 = .ok (.if_icmp .lt 7, 3) := by decide +kernel
theorem dX0_record_9 : decode cX0_record 9 = .ok (.aload_n 0, 1) := by decide +kernel
theorem dX0_record_10 : decode cX0_record 10 = .ok (.invokevirtual 22, 3) := by decide +kernel
theorem dX0_record_13 : decode cX0_record 13 = .ok (.aload_n 0, 1) := by decide +kernel
theorem dX0_record_14 : decode cX0_record 14 = .ok (.getfield 11, 3) := by decide +kernel
theorem dX0_record_17 : decode cX0_record 17 = .ok (.aload_n 0, 1) := by decide +kernel
theorem dX0_record_18 : decode cX0_record 18 = .ok (.getfield 18, 3) := by decide +kernel
theorem dX0_record_21 : decode cX0_record 21 = .ok (.aaload, 1) := by decide +kernel
theorem dX0_record_22 : decode cX0_record 22 = .ok (.aload_n 1, 1) := by decide +kernel
theorem dX0_record_23 : decode cX0_record 23 = .ok (.invokevirtual 25, 3) := by decide +kernel
theorem dX0_record_26 : decode cX0_record 26 = .ok (.aload_n 0, 1) := by decide +kernel
theorem dX0_record_27 : decode cX0_record 27 = .ok (.dup, 1) := by decide +kernel
theorem dX0_record_28 : decode cX0_record 28 = .ok (.getfield 18, 3) := by decide +kernel
theorem dX0_record_31 : decode cX0_record 31 = .ok (.iconst 1, 1) := by decide +kernel
theorem dX0_record_32 : decode cX0_record 32 = .ok (.iadd, 1) := by decide +kernel
theorem dX0_record_33 : decode cX0_record 33 = .ok (.putfield 18, 3) := by decide +kernel
theorem dX0_record_36 : decode cX0_record 36 = .ok (.return_, 1) := by decide +kernel
theorem dX0_dropOldest_0 : decode cX0_dropOldest 0 = .ok (.aload_n 0, 1) := by decide +kernel
theorem dX0_dropOldest_1 : decode cX0_dropOldest 1 = .ok (.getfield 11, 3) := by decide +kernel
theorem dX0_dropOldest_4 : decode cX0_dropOldest 4 = .ok (.iconst 0, 1) := by decide +kernel
theorem dX0_dropOldest_5 : decode cX0_dropOldest 5 = .ok (.aaload, 1) := by decide +kernel
theorem dX0_dropOldest_6 : decode cX0_dropOldest 6 = .ok (.astore_n 1, 1) := by decide +kernel
theorem dX0_dropOldest_7 : decode cX0_dropOldest 7 = .ok (.iconst 1, 1) := by decide +kernel
theorem dX0_dropOldest_8 : decode cX0_dropOldest 8 = .ok (.istore_n 2, 1) := by decide +kernel
theorem dX0_dropOldest_9 : decode cX0_dropOldest 9 = .ok (.iload_n 2, 1) := by decide +kernel
theorem dX0_dropOldest_10 : decode cX0_dropOldest 10 = .ok (.bipush 6, 2) := by decide +kernel
theorem dX0_dropOldest_12 : decode cX0_dropOldest 12 = .ok (.if_icmp .ge 23, 3) := by decide +kernel
theorem dX0_dropOldest_15 : decode cX0_dropOldest 15 = .ok (.aload_n 0, 1) := by decide +kernel
theorem dX0_dropOldest_16 : decode cX0_dropOldest 16 = .ok (.getfield 11, 3) := by decide +kernel
theorem dX0_dropOldest_19 : decode cX0_dropOldest 19 = .ok (.iload_n 2, 1) := by decide +kernel
theorem dX0_dropOldest_20 : decode cX0_dropOldest 20 = .ok (.iconst 1, 1) := by decide +kernel
theorem dX0_dropOldest_21 : decode cX0_dropOldest 21 = .ok (.isub, 1) := by decide +kernel
theorem dX0_dropOldest_22 : decode cX0_dropOldest 22 = .ok (.aload_n 0, 1) := by decide +kernel
theorem dX0_dropOldest_23 : decode cX0_dropOldest 23 = .ok (.getfield 11, 3) := by decide +kernel
theorem dX0_dropOldest_26 : decode cX0_dropOldest 26 = .ok (.iload_n 2, 1) := by decide +kernel
theorem dX0_dropOldest_27 : decode cX0_dropOldest 27 = .ok (.aaload, 1) := by decide +kernel
theorem dX0_dropOldest_28 : decode cX0_dropOldest 28 = .ok (.aastore, 1) := by decide +kernel
theorem dX0_dropOldest_29 : decode cX0_dropOldest 29 = .ok (.iinc 2 1, 3) := by decide +kernel
theorem dX0_dropOldest_32 : decode cX0_dropOldest 32 = .ok (.goto (-23), 3) := by decide +kernel
theorem dX0_dropOldest_35 : decode cX0_dropOldest 35 = .ok (.aload_n 0, 1) := by decide +kernel
theorem dX0_dropOldest_36 : decode cX0_dropOldest 36 = .ok (.getfield 11, 3) := by decide +kernel
theorem dX0_dropOldest_39 : decode cX0_dropOldest 39 = .ok (.iconst 5, 1) := by decide +kernel
theorem dX0_dropOldest_40 : decode cX0_dropOldest 40 = .ok (.aload_n 1, 1) := by decide +kernel
theorem dX0_dropOldest_41 : decode cX0_dropOldest 41 = .ok (.aastore, 1) := by decide +kernel
theorem dX0_dropOldest_42 : decode cX0_dropOldest 42 = .ok (.aload_n 0, 1) := by decide +kernel
theorem dX0_dropOldest_43 : decode cX0_dropOldest 43 = .ok (.iconst 5, 1) := by decide +kernel
theorem dX0_dropOldest_44 : decode cX0_dropOldest 44 = .ok (.putfield 18, 3) := by decide +kernel
theorem dX0_dropOldest_47 : decode cX0_dropOldest 47 = .ok (.return_, 1) := by decide +kernel
set_option maxRecDepth 20000 in
theorem ggX0_takeBack_X3_copyFrom : GoodIn wsX0_takeBack wsX3_copyFrom := goodIn_r _ [7, 8, 9, 10, 11, 12, 13, 14, 15, 16, 17, 18, 19, 20, 21, 22, 23, 24, 25, 28, 29, 30, 31, 32, 33, 34, 35, 36, 37, 38, 39, 40, 41, 42] (by decide +kernel) (by decide +kernel)
set_option maxRecDepth 20000 in
theorem gX0_takeBack_X3_copyFrom : GoodIn wsX0_takeBack (wsV RX0 25 RX3 yX3_copyFrom wsX3_copyFrom) := goodIn_app (goodIn_of _ (by decide +kernel)) ggX0_takeBack_X3_copyFrom
theorem dX0_takeBack_0 : decode cX0_takeBack 0 = .ok (.aload_n 0, 1) := by decide +kernel
theorem dX0_takeBack_1 : decode cX0_takeBack 1 = .ok (.getfield 18, 3) := by decide +kernel
theorem dX0_takeBack_4 : decode cX0_takeBack 4 = .ok (.ifCond .gt 4, 3) := by decide +kernel
theorem dX0_takeBack_7 : decode cX0_takeBack 7 = .ok (.return_, 1) := by decide +kernel
theorem dX0_takeBack_8 : decode cX0_takeBack 8 = .ok (.aload_n 0, 1) := by decide +kernel
theorem dX0_takeBack_9 : decode cX0_takeBack 9 = .ok (.dup, 1) := by decide +kernel
theorem dX0_takeBack_10 : decode cX0_takeBack 10 = .ok (.getfield 18, 3) := by decide +kernel
theorem dX0_takeBack_13 : decode cX0_takeBack 13 = .ok (.iconst 1, 1) := by decide +kernel
theorem dX0_takeBack_14 : decode cX0_takeBack 14 = .ok (.isub, 1) := by decide +kernel
theorem dX0_takeBack_15 : decode cX0_takeBack 15 = .ok (.putfield 18, 3) := by decide +kernel
theorem dX0_takeBack_18 : decode cX0_takeBack 18 = .ok (.aload_n 1, 1) := by decide +kernel
theorem dX0_takeBack_19 : decode cX0_takeBack 19 = .ok (.aload_n 0, 1) := by decide +kernel
theorem dX0_takeBack_20 : decode cX0_takeBack 20 = .ok (.getfield 11, 3) := by decide +kernel
theorem dX0_takeBack_23 : decode cX0_takeBack 23 = .ok (.aload_n 0, 1) := by decide +kernel
theorem dX0_takeBack_24 : decode cX0_takeBack 24 = .ok (.getfield 18, 3) := by decide +kernel
theorem dX0_takeBack_27 : decode cX0_takeBack 27 = .ok (.aaload, 1) := by decide +kernel
theorem dX0_takeBack_28 : decode cX0_takeBack 28 = .ok (.invokevirtual 25, 3) := by decide +kernel
theorem dX0_takeBack_31 : decode cX0_takeBack 31 = .ok (.return_, 1) := by decide +kernel
theorem dX1_init_0 : decode cX1_init 0 = .ok (.aload_n 0, 1) := by decide +kernel
theorem dX1_init_1 : decode cX1_init 1 = .ok (.invokespecial 3, 3) := by decide +kernel
theorem dX1_init_4 : decode cX1_init 4 = .ok (.aload_n 0, 1) := by decide +kernel
theorem dX1_init_5 : decode cX1_init 5 = .ok (.bipush 60, 2) := by decide +kernel
theorem dX1_init_7 : decode cX1_init 7 = .ok (.newarray .char, 2) := by decide +kernel
theorem dX1_init_9 : decode cX1_init 9 = .ok (.putfield 11, 3) := by decide +kernel
theorem dX1_init_12 : decode cX1_init 12 = .ok (.return_, 1) := by decide +kernel
set_option maxRecDepth 20000 in
theorem ggX1_findFault_X1_isAmount : GoodIn wsX1_findFault wsX1_isAmount := goodIn_r _ [6] (by decide +kernel) (by decide +kernel)
set_option maxRecDepth 20000 in
theorem gX1_findFault_X1_isAmount : GoodIn wsX1_findFault (va_wsS RX1 25 yX1_isAmount wsX1_isAmount) := goodIn_app (goodIn_of _ (by decide +kernel)) ggX1_findFault_X1_isAmount
set_option maxRecDepth 20000 in
theorem ggX1_findFault_X1_beginsHour : GoodIn wsX1_findFault wsX1_beginsHour := goodIn_r _ [9] (by decide +kernel) (by decide +kernel)
set_option maxRecDepth 20000 in
theorem gX1_findFault_X1_beginsHour : GoodIn wsX1_findFault (va_wsS RX1 29 yX1_beginsHour wsX1_beginsHour) := goodIn_app (goodIn_of _ (by decide +kernel)) ggX1_findFault_X1_beginsHour
theorem dX1_findFault_0 : decode cX1_findFault 0 = .ok (.iconst 0, 1) := by decide +kernel
theorem dX1_findFault_1 : decode cX1_findFault 1 = .ok (.istore_n 1, 1) := by decide +kernel
theorem dX1_findFault_2 : decode cX1_findFault 2 = .ok (.iconst 0, 1) := by decide +kernel
theorem dX1_findFault_3 : decode cX1_findFault 3 = .ok (.istore_n 2, 1) := by decide +kernel
theorem dX1_findFault_4 : decode cX1_findFault 4 = .ok (.iload_n 2, 1) := by decide +kernel
theorem dX1_findFault_5 : decode cX1_findFault 5 = .ok (.aload_n 0, 1) := by decide +kernel
theorem dX1_findFault_6 : decode cX1_findFault 6 = .ok (.getfield 21, 3) := by decide +kernel
theorem dX1_findFault_9 : decode cX1_findFault 9 = .ok (.if_icmp .ge 51, 3) := by decide +kernel
theorem dX1_findFault_12 : decode cX1_findFault 12 = .ok (.aload_n 0, 1) := by decide +kernel
theorem dX1_findFault_13 : decode cX1_findFault 13 = .ok (.getfield 11, 3) := by decide +kernel
theorem dX1_findFault_16 : decode cX1_findFault 16 = .ok (.iload_n 2, 1) := by decide +kernel
theorem dX1_findFault_17 : decode cX1_findFault 17 = .ok (.caload, 1) := by decide +kernel
theorem dX1_findFault_18 : decode cX1_findFault 18 = .ok (.istore_n 3, 1) := by decide +kernel
theorem dX1_findFault_19 : decode cX1_findFault 19 = .ok (.iload_n 1, 1) := by decide +kernel
theorem dX1_findFault_20 : decode cX1_findFault 20 = .ok (.ifCond .eq 13, 3) := by decide +kernel
theorem dX1_findFault_23 : decode cX1_findFault 23 = .ok (.iload_n 3, 1) := by decide +kernel
theorem dX1_findFault_24 : decode cX1_findFault 24 = .ok (.invokestatic 25, 3) := by decide +kernel
theorem dX1_findFault_27 : decode cX1_findFault 27 = .ok (.ifCond .ne 15, 3) := by decide +kernel
theorem dX1_findFault_30 : decode cX1_findFault 30 = .ok (.goto 10, 3) := by decide +kernel
theorem dX1_findFault_33 : decode cX1_findFault 33 = .ok (.iload_n 3, 1) := by decide +kernel
theorem dX1_findFault_34 : decode cX1_findFault 34 = .ok (.invokestatic 29, 3) := by decide +kernel
theorem dX1_findFault_37 : decode cX1_findFault 37 = .ok (.ifCond .ne 5, 3) := by decide +kernel
theorem dX1_findFault_40 : decode cX1_findFault 40 = .ok (.iload_n 2, 1) := by decide +kernel
theorem dX1_findFault_41 : decode cX1_findFault 41 = .ok (.ireturn, 1) := by decide +kernel
theorem dX1_findFault_42 : decode cX1_findFault 42 = .ok (.iload_n 3, 1) := by decide +kernel
theorem dX1_findFault_43 : decode cX1_findFault 43 = .ok (.bipush 114, 2) := by decide +kernel
theorem dX1_findFault_45 : decode cX1_findFault 45 = .ok (.if_icmp .ne 7, 3) := by decide +kernel
theorem dX1_findFault_48 : decode cX1_findFault 48 = .ok (.iconst 1, 1) := by decide +kernel
theorem dX1_findFault_49 : decode cX1_findFault 49 = .ok (.goto 4, 3) := by decide +kernel
theorem dX1_findFault_52 : decode cX1_findFault 52 = .ok (.iconst 0, 1) := by decide +kernel
theorem dX1_findFault_53 : decode cX1_findFault 53 = .ok (.istore_n 1, 1) := by decide +kernel
theorem dX1_findFault_54 : decode cX1_findFault 54 = .ok (.iinc 2 1, 3) := by decide +kernel
theorem dX1_findFault_57 : decode cX1_findFault 57 = .ok (.goto (-53), 3) := by decide +kernel
theorem dX1_findFault_60 : decode cX1_findFault 60 = .ok (.iload_n 1, 1) := by decide +kernel
theorem dX1_findFault_61 : decode cX1_findFault 61 = .ok (.ifCond .ne 10, 3) := by decide +kernel
theorem dX1_findFault_64 : decode cX1_findFault 64 = .ok (.aload_n 0, 1) := by decide +kernel
theorem dX1_findFault_65 : decode cX1_findFault 65 = .ok (.getfield 21, 3) := by decide +kernel
theorem dX1_findFault_68 : decode cX1_findFault 68 = .ok (.ifCond .ne 10, 3) := by decide +kernel
theorem dX1_findFault_71 : decode cX1_findFault 71 = .ok (.aload_n 0, 1) := by decide +kernel
theorem dX1_findFault_72 : decode cX1_findFault 72 = .ok (.getfield 21, 3) := by decide +kernel
theorem dX1_findFault_75 : decode cX1_findFault 75 = .ok (.goto 5, 3) := by decide +kernel
theorem dX1_findFault_78 : decode cX1_findFault 78 = .ok (.bipush (-6), 2) := by decide +kernel
theorem dX1_findFault_80 : decode cX1_findFault 80 = .ok (.ireturn, 1) := by decide +kernel
theorem dX1_isAmount_0 : decode cX1_isAmount 0 = .ok (.iload_n 0, 1) := by decide +kernel
theorem dX1_isAmount_1 : decode cX1_isAmount 1 = .ok (.bipush 49, 2) := by decide +kernel
theorem dX1_isAmount_3 : decode cX1_isAmount 3 = .ok (.if_icmp .lt 13, 3) := by decide +kernel
theorem dX1_isAmount_6 : decode cX1_isAmount 6 = .ok (.iload_n 0, 1) := by decide +kernel
theorem dX1_isAmount_7 : decode cX1_isAmount 7 = .ok (.bipush 57, 2) := by decide +kernel
theorem dX1_isAmount_9 : decode cX1_isAmount 9 = .ok (.if_icmp .gt 7, 3) := by decide +kernel
theorem dX1_isAmount_12 : decode cX1_isAmount 12 = .ok (.iconst 1, 1) := by decide +kernel
theorem dX1_isAmount_13 : decode cX1_isAmount 13 = .ok (.goto 4, 3) := by decide +kernel
theorem dX1_isAmount_16 : decode cX1_isAmount 16 = .ok (.iconst 0, 1) := by decide +kernel
theorem dX1_isAmount_17 : decode cX1_isAmount 17 = .ok (.ireturn, 1) := by decide +kernel
theorem dX1_beginsHour_0 : decode cX1_beginsHour 0 = .ok (.iload_n 0, 1) := by decide +kernel
theorem dX1_beginsHour_1 : decode cX1_beginsHour 1 = .ok (.bipush 114, 2) := by decide +kernel
theorem dX1_beginsHour_3 : decode cX1_beginsHour 3 = .ok (.if_icmp .eq 21, 3) := by decide +kernel
theorem dX1_beginsHour_6 : decode cX1_beginsHour 6 = .ok (.iload_n 0, 1) := by decide +kernel
theorem dX1_beginsHour_7 : decode cX1_beginsHour 7 = .ok (.bipush 115, 2) := by decide +kernel
theorem dX1_beginsHour_9 : decode cX1_beginsHour 9 = .ok (.if_icmp .eq 15, 3) := by decide +kernel
theorem dX1_beginsHour_12 : decode cX1_beginsHour 12 = .ok (.iload_n 0, 1) := by decide +kernel
theorem dX1_beginsHour_13 : decode cX1_beginsHour 13 = .ok (.bipush 102, 2) := by decide +kernel
theorem dX1_beginsHour_15 : decode cX1_beginsHour 15 = .ok (.if_icmp .eq 9, 3) := by decide +kernel
theorem dX1_beginsHour_18 : decode cX1_beginsHour 18 = .ok (.iload_n 0, 1) := by decide +kernel
theorem dX1_beginsHour_19 : decode cX1_beginsHour 19 = .ok (.bipush 100, 2) := by decide +kernel
theorem dX1_beginsHour_21 : decode cX1_beginsHour 21 = .ok (.if_icmp .ne 7, 3) := by decide +kernel
theorem dX1_beginsHour_24 : decode cX1_beginsHour 24 = .ok (.iconst 1, 1) := by decide +kernel
theorem dX1_beginsHour_25 : decode cX1_beginsHour 25 = .ok (.goto 4, 3) := by decide +kernel
theorem dX1_beginsHour_28 : decode cX1_beginsHour 28 = .ok (.iconst 0, 1) := by decide +kernel
theorem dX1_beginsHour_29 : decode cX1_beginsHour 29 = .ok (.ireturn, 1) := by decide +kernel
set_option maxRecDepth 20000 in
theorem ggX1_weatherAt_X1_isAmount : GoodIn wsX1_weatherAt wsX1_isAmount := goodIn_r _ [5] (by decide +kernel) (by decide +kernel)
set_option maxRecDepth 20000 in
theorem gX1_weatherAt_X1_isAmount : GoodIn wsX1_weatherAt (va_wsS RX1 25 yX1_isAmount wsX1_isAmount) := goodIn_app (goodIn_of _ (by decide +kernel)) ggX1_weatherAt_X1_isAmount
theorem dX1_weatherAt_0 : decode cX1_weatherAt 0 = .ok (.aload_n 0, 1) := by decide +kernel
theorem dX1_weatherAt_1 : decode cX1_weatherAt 1 = .ok (.getfield 11, 3) := by decide +kernel
theorem dX1_weatherAt_4 : decode cX1_weatherAt 4 = .ok (.iload_n 1, 1) := by decide +kernel
theorem dX1_weatherAt_5 : decode cX1_weatherAt 5 = .ok (.caload, 1) := by decide +kernel
theorem dX1_weatherAt_6 : decode cX1_weatherAt 6 = .ok (.istore_n 2, 1) := by decide +kernel
theorem dX1_weatherAt_7 : decode cX1_weatherAt 7 = .ok (.iload_n 2, 1) := by decide +kernel
theorem dX1_weatherAt_8 : decode cX1_weatherAt 8 = .ok (.invokestatic 25, 3) := by decide +kernel
theorem dX1_weatherAt_11 : decode cX1_weatherAt 11 = .ok (.ifCond .eq 8, 3) := by decide +kernel
theorem dX1_weatherAt_14 : decode cX1_weatherAt 14 = .ok (.iload_n 2, 1) := by decide +kernel
theorem dX1_weatherAt_15 : decode cX1_weatherAt 15 = .ok (.bipush 48, 2) := by decide +kernel
theorem dX1_weatherAt_17 : decode cX1_weatherAt 17 = .ok (.isub, 1) := by decide +kernel
theorem dX1_weatherAt_18 : decode cX1_weatherAt 18 = .ok (.ireturn, 1) := by decide +kernel
theorem dX1_weatherAt_19 : decode cX1_weatherAt 19 = .ok (.iload_n 2, 1) := by decide +kernel
theorem dX1_weatherAt_20 : decode cX1_weatherAt 20 = .ok (.bipush 115, 2) := by decide +kernel
theorem dX1_weatherAt_22 : decode cX1_weatherAt 22 = .ok (.if_icmp .ne 5, 3) := by decide +kernel
theorem dX1_weatherAt_25 : decode cX1_weatherAt 25 = .ok (.iconst 0, 1) := by decide +kernel
theorem dX1_weatherAt_26 : decode cX1_weatherAt 26 = .ok (.ireturn, 1) := by decide +kernel
theorem dX1_weatherAt_27 : decode cX1_weatherAt 27 = .ok (.iload_n 2, 1) := by decide +kernel
theorem dX1_weatherAt_28 : decode cX1_weatherAt 28 = .ok (.bipush 102, 2) := by decide +kernel
theorem dX1_weatherAt_30 : decode cX1_weatherAt 30 = .ok (.if_icmp .ne 6, 3) := by decide +kernel
theorem dX1_weatherAt_33 : decode cX1_weatherAt 33 = .ok (.bipush 10, 2) := by decide +kernel
theorem dX1_weatherAt_35 : decode cX1_weatherAt 35 = .ok (.ireturn, 1) := by decide +kernel
theorem dX1_weatherAt_36 : decode cX1_weatherAt 36 = .ok (.iload_n 2, 1) := by decide +kernel
theorem dX1_weatherAt_37 : decode cX1_weatherAt 37 = .ok (.bipush 100, 2) := by decide +kernel
theorem dX1_weatherAt_39 : decode cX1_weatherAt 39 = .ok (.if_icmp .ne 8, 3) := by decide +kernel
theorem dX1_weatherAt_42 : decode cX1_weatherAt 42 = .ok (.bipush 11, 2) := by decide +kernel
theorem dX1_weatherAt_44 : decode cX1_weatherAt 44 = .ok (.goto 4, 3) := by decide +kernel
theorem dX1_weatherAt_47 : decode cX1_weatherAt 47 = .ok (.iconst (-1), 1) := by decide +kernel
theorem dX1_weatherAt_48 : decode cX1_weatherAt 48 = .ok (.ireturn, 1) := by decide +kernel
set_option maxRecDepth 20000 in
theorem ggX1_daysTold_X1_weatherAt : GoodIn wsX1_daysTold wsX1_weatherAt := goodIn_r _ [6, 7, 8, 9, 5, 10, 11, 12] (by decide +kernel) (by decide +kernel)
set_option maxRecDepth 20000 in
theorem gX1_daysTold_X1_weatherAt : GoodIn wsX1_daysTold (wsV RX1 32 RX1 yX1_weatherAt wsX1_weatherAt) := goodIn_app (goodIn_of _ (by decide +kernel)) ggX1_daysTold_X1_weatherAt
theorem dX1_daysTold_0 : decode cX1_daysTold 0 = .ok (.iconst 0, 1) := by decide +kernel
theorem dX1_daysTold_1 : decode cX1_daysTold 1 = .ok (.istore_n 1, 1) := by decide +kernel
theorem dX1_daysTold_2 : decode cX1_daysTold 2 = .ok (.iconst 0, 1) := by decide +kernel
theorem dX1_daysTold_3 : decode cX1_daysTold 3 = .ok (.istore_n 2, 1) := by decide +kernel
theorem dX1_daysTold_4 : decode cX1_daysTold 4 = .ok (.iload_n 2, 1) := by decide +kernel
theorem dX1_daysTold_5 : decode cX1_daysTold 5 = .ok (.aload_n 0, 1) := by decide +kernel
theorem dX1_daysTold_6 : decode cX1_daysTold 6 = .ok (.getfield 21, 3) := by decide +kernel
theorem dX1_daysTold_9 : decode cX1_daysTold 9 = .ok (.if_icmp .ge 22, 3) := by decide +kernel
theorem dX1_daysTold_12 : decode cX1_daysTold 12 = .ok (.aload_n 0, 1) := by decide +kernel
theorem dX1_daysTold_13 : decode cX1_daysTold 13 = .ok (.iload_n 2, 1) := by decide +kernel
theorem dX1_daysTold_14 : decode cX1_daysTold 14 = .ok (.invokevirtual 32, 3) := by decide +kernel
theorem dX1_daysTold_17 : decode cX1_daysTold 17 = .ok (.bipush 11, 2) := by decide +kernel
theorem dX1_daysTold_19 : decode cX1_daysTold 19 = .ok (.if_icmp .ne 6, 3) := by decide +kernel
theorem dX1_daysTold_22 : decode cX1_daysTold 22 = .ok (.iinc 1 1, 3) := by decide +kernel
theorem dX1_daysTold_25 : decode cX1_daysTold 25 = .ok (.iinc 2 1, 3) := by decide +kernel
theorem dX1_daysTold_28 : decode cX1_daysTold 28 = .ok (.goto (-24), 3) := by decide +kernel
theorem dX1_daysTold_31 : decode cX1_daysTold 31 = .ok (.iload_n 1, 1) := by decide +kernel
theorem dX1_daysTold_32 : decode cX1_daysTold 32 = .ok (.ireturn, 1) := by decide +kernel
set_option maxRecDepth 20000 in
theorem ggX2_init_X3_init : GoodIn wsX2_init wsX3_init := goodIn_r _ [12, 13, 2, 3, 14, 15, 16, 17, 18, 19, 20, 21, 22, 23, 26, 27, 28, 29, 30, 31, 32, 33, 34, 35, 36, 37, 38, 39, 40] (by decide +kernel) (by decide +kernel)
set_option maxRecDepth 20000 in
theorem gX2_init_X3_init : GoodIn wsX2_init (wsX3_init) := ggX2_init_X3_init
theorem dX2_init_0 : decode cX2_init 0 = .ok (.aload_n 0, 1) := by decide +kernel
theorem dX2_init_1 : decode cX2_init 1 = .ok (.invokespecial 3, 3) := by decide +kernel
theorem dX2_init_4 : decode cX2_init 4 = .ok (.aload_n 0, 1) := by decide +kernel
theorem dX2_init_5 : decode cX2_init 5 = .ok (.iconst 2, 1) := by decide +kernel
theorem dX2_init_6 : decode cX2_init 6 = .ok (.anewarray 9, 3) := by decide +kernel
theorem dX2_init_9 : decode cX2_init 9 = .ok (.putfield 11, 3) := by decide +kernel
theorem dX2_init_12 : decode cX2_init 12 = .ok (.aload_n 0, 1) := by decide +kernel
theorem dX2_init_13 : decode cX2_init 13 = .ok (.iconst 2, 1) := by decide +kernel
theorem dX2_init_14 : decode cX2_init 14 = .ok (.newarray .boolean, 2) := by decide +kernel
theorem dX2_init_16 : decode cX2_init 16 = .ok (.putfield 17, 3) := by decide +kernel
theorem dX2_init_19 : decode cX2_init 19 = .ok (.iconst 0, 1) := by decide +kernel
theorem dX2_init_20 : decode cX2_init 20 = .ok (.istore_n 1, 1) := by decide +kernel
theorem dX2_init_21 : decode cX2_init 21 = .ok (.iload_n 1, 1) := by decide +kernel
theorem dX2_init_22 : decode cX2_init 22 = .ok (.iconst 2, 1) := by decide +kernel
theorem dX2_init_23 : decode cX2_init 23 = .ok (.if_icmp .ge 22, 3) := by decide +kernel
theorem dX2_init_26 : decode cX2_init 26 = .ok (.aload_n 0, 1) := by decide +kernel
theorem dX2_init_27 : decode cX2_init 27 = .ok (.getfield 11, 3) := by decide +kernel
theorem dX2_init_30 : decode cX2_init 30 = .ok (.iload_n 1, 1) := by decide +kernel
theorem dX2_init_31 : decode cX2_init 31 = .ok (.new 9, 3) := by decide +kernel
theorem dX2_init_34 : decode cX2_init 34 = .ok (.dup, 1) := by decide +kernel
theorem dX2_init_35 : decode cX2_init 35 = .ok (.invokespecial 21, 3) := by decide +kernel
theorem dX2_init_38 : decode cX2_init 38 = .ok (.aastore, 1) := by decide +kernel
theorem dX2_init_39 : decode cX2_init 39 = .ok (.iinc 1 1, 3) := by decide +kernel
theorem dX2_init_42 : decode cX2_init 42 = .ok (.goto (-21), 3) := by decide +kernel
theorem dX2_init_45 : decode cX2_init 45 = .ok (.return_, 1) := by decide +kernel
theorem dX3_init_0 : decode cX3_init 0 = .ok (.aload_n 0, 1) := by decide +kernel
theorem dX3_init_1 : decode cX3_init 1 = .ok (.invokespecial 3, 3) := by decide +kernel
theorem dX3_init_4 : decode cX3_init 4 = .ok (.aload_n 0, 1) := by decide +kernel
theorem dX3_init_5 : decode cX3_init 5 = .ok (.iconst 4, 1) := by decide +kernel
theorem dX3_init_6 : decode cX3_init 6 = .ok (.newarray .int, 2) := by decide +kernel
theorem dX3_init_8 : decode cX3_init 8 = .ok (.putfield 9, 3) := by decide +kernel
theorem dX3_init_11 : decode cX3_init 11 = .ok (.aload_n 0, 1) := by decide +kernel
theorem dX3_init_12 : decode cX3_init 12 = .ok (.bipush 12, 2) := by decide +kernel
theorem dX3_init_14 : decode cX3_init 14 = .ok (.newarray .int, 2) := by decide +kernel
theorem dX3_init_16 : decode cX3_init 16 = .ok (.putfield 15, 3) := by decide +kernel
theorem dX3_init_19 : decode cX3_init 19 = .ok (.aload_n 0, 1) := by decide +kernel
theorem dX3_init_20 : decode cX3_init 20 = .ok (.bipush 12, 2) := by decide +kernel
theorem dX3_init_22 : decode cX3_init 22 = .ok (.newarray .int, 2) := by decide +kernel
theorem dX3_init_24 : decode cX3_init 24 = .ok (.putfield 18, 3) := by decide +kernel
theorem dX3_init_27 : decode cX3_init 27 = .ok (.aload_n 0, 1) := by decide +kernel
theorem dX3_init_28 : decode cX3_init 28 = .ok (.bipush 12, 2) := by decide +kernel
theorem dX3_init_30 : decode cX3_init 30 = .ok (.newarray .int, 2) := by decide +kernel
theorem dX3_init_32 : decode cX3_init 32 = .ok (.putfield 21, 3) := by decide +kernel
theorem dX3_init_35 : decode cX3_init 35 = .ok (.aload_n 0, 1) := by decide +kernel
theorem dX3_init_36 : decode cX3_init 36 = .ok (.bipush 6, 2) := by decide +kernel
theorem dX3_init_38 : decode cX3_init 38 = .ok (.newarray .int, 2) := by decide +kernel
theorem dX3_init_40 : decode cX3_init 40 = .ok (.putfield 24, 3) := by decide +kernel
theorem dX3_init_43 : decode cX3_init 43 = .ok (.aload_n 0, 1) := by decide +kernel
theorem dX3_init_44 : decode cX3_init 44 = .ok (.bipush 6, 2) := by decide +kernel
theorem dX3_init_46 : decode cX3_init 46 = .ok (.newarray .int, 2) := by decide +kernel
theorem dX3_init_48 : decode cX3_init 48 = .ok (.putfield 27, 3) := by decide +kernel
theorem dX3_init_51 : decode cX3_init 51 = .ok (.aload_n 0, 1) := by decide +kernel
theorem dX3_init_52 : decode cX3_init 52 = .ok (.bipush 6, 2) := by decide +kernel
theorem dX3_init_54 : decode cX3_init 54 = .ok (.newarray .int, 2) := by decide +kernel
theorem dX3_init_56 : decode cX3_init 56 = .ok (.putfield 30, 3) := by decide +kernel
theorem dX3_init_59 : decode cX3_init 59 = .ok (.aload_n 0, 1) := by decide +kernel
theorem dX3_init_60 : decode cX3_init 60 = .ok (.bipush 6, 2) := by decide +kernel
theorem dX3_init_62 : decode cX3_init 62 = .ok (.newarray .int, 2) := by decide +kernel
theorem dX3_init_64 : decode cX3_init 64 = .ok (.putfield 33, 3) := by decide +kernel
theorem dX3_init_67 : decode cX3_init 67 = .ok (.aload_n 0, 1) := by decide +kernel
theorem dX3_init_68 : decode cX3_init 68 = .ok (.bipush 72, 2) := by decide +kernel
theorem dX3_init_70 : decode cX3_init 70 = .ok (.newarray .int, 2) := by decide +kernel
theorem dX3_init_72 : decode cX3_init 72 = .ok (.putfield 36, 3) := by decide +kernel
theorem dX3_init_75 : decode cX3_init 75 = .ok (.iconst 0, 1) := by decide +kernel
theorem dX3_init_76 : decode cX3_init 76 = .ok (.istore_n 1, 1) := by decide +kernel
theorem dX3_init_77 : decode cX3_init 77 = .ok (.iload_n 1, 1) := by decide +kernel
theorem dX3_init_78 : decode cX3_init 78 = .ok (.iconst 4, 1) := by decide +kernel
theorem dX3_init_79 : decode cX3_init 79 = .ok (.if_icmp .ge 20, 3) := by decide +kernel
theorem dX3_init_82 : decode cX3_init 82 = .ok (.aload_n 0, 1) := by decide +kernel
theorem dX3_init_83 : decode cX3_init 83 = .ok (.getfield 9, 3) := by decide +kernel
theorem dX3_init_86 : decode cX3_init 86 = .ok (.iload_n 1, 1) := by decide +kernel
theorem dX3_init_87 : decode cX3_init 87 = .ok (.getstatic 39, 3) := by decide +kernel
theorem dX3_init_90 : decode cX3_init 90 = .ok (.iload_n 1, 1) := by decide +kernel
theorem dX3_init_91 : decode cX3_init 91 = .ok (.iaload, 1) := by decide +kernel
theorem dX3_init_92 : decode cX3_init 92 = .ok (.iastore, 1) := by decide +kernel
theorem dX3_init_93 : decode cX3_init 93 = .ok (.iinc 1 1, 3) := by decide +kernel
theorem dX3_init_96 : decode cX3_init 96 = .ok (.goto (-19), 3) := by decide +kernel
theorem dX3_init_99 : decode cX3_init 99 = .ok (.iconst 0, 1) := by decide +kernel
theorem dX3_init_100 : decode cX3_init 100 = .ok (.istore_n 1, 1) := by decide +kernel
theorem dX3_init_101 : decode cX3_init 101 = .ok (.iload_n 1, 1) := by decide +kernel
theorem dX3_init_102 : decode cX3_init 102 = .ok (.bipush 12, 2) := by decide +kernel
theorem dX3_init_104 : decode cX3_init 104 = .ok (.if_icmp .ge 17, 3) := by decide +kernel
theorem dX3_init_107 : decode cX3_init 107 = .ok (.aload_n 0, 1) := by decide +kernel
theorem dX3_init_108 : decode cX3_init 108 = .ok (.getfield 15, 3) := by decide +kernel
theorem dX3_init_111 : decode cX3_init 111 = .ok (.iload_n 1, 1) := by decide +kernel
theorem dX3_init_112 : decode cX3_init 112 = .ok (.bipush 20, 2) := by decide +kernel
theorem dX3_init_114 : decode cX3_init 114 = .ok (.iastore, 1) := by decide +kernel
theorem dX3_init_115 : decode cX3_init 115 = .ok (.iinc 1 1, 3) := by decide +kernel
theorem dX3_init_118 : decode cX3_init 118 = .ok (.goto (-17), 3) := by decide +kernel
theorem dX3_init_121 : decode cX3_init 121 = .ok (.return_, 1) := by decide +kernel
set_option maxRecDepth 20000 in
theorem ggX3_copyFrom_X4_copy : GoodIn wsX3_copyFrom wsX4_copy := goodIn_r _ [18] (by decide +kernel) (by decide +kernel)
set_option maxRecDepth 20000 in
theorem gX3_copyFrom_X4_copy_n42 : GoodIn wsX3_copyFrom (wsX4_copy) := ggX3_copyFrom_X4_copy
theorem dX3_copyFrom_0 : decode cX3_copyFrom 0 = .ok (.aload_n 1, 1) := by decide +kernel
theorem dX3_copyFrom_1 : decode cX3_copyFrom 1 = .ok (.getfield 9, 3) := by decide +kernel
theorem dX3_copyFrom_4 : decode cX3_copyFrom 4 = .ok (.aload_n 0, 1) := by decide +kernel
theorem dX3_copyFrom_5 : decode cX3_copyFrom 5 = .ok (.getfield 9, 3) := by decide +kernel
theorem dX3_copyFrom_8 : decode cX3_copyFrom 8 = .ok (.invokestatic 42, 3) := by decide +kernel
theorem dX3_copyFrom_11 : decode cX3_copyFrom 11 = .ok (.aload_n 1, 1) := by decide +kernel
theorem dX3_copyFrom_12 : decode cX3_copyFrom 12 = .ok (.getfield 15, 3) := by decide +kernel
theorem dX3_copyFrom_15 : decode cX3_copyFrom 15 = .ok (.aload_n 0, 1) := by decide +kernel
theorem dX3_copyFrom_16 : decode cX3_copyFrom 16 = .ok (.getfield 15, 3) := by decide +kernel
theorem dX3_copyFrom_19 : decode cX3_copyFrom 19 = .ok (.invokestatic 42, 3) := by decide +kernel
theorem dX3_copyFrom_22 : decode cX3_copyFrom 22 = .ok (.aload_n 1, 1) := by decide +kernel
theorem dX3_copyFrom_23 : decode cX3_copyFrom 23 = .ok (.getfield 18, 3) := by decide +kernel
theorem dX3_copyFrom_26 : decode cX3_copyFrom 26 = .ok (.aload_n 0, 1) := by decide +kernel
theorem dX3_copyFrom_27 : decode cX3_copyFrom 27 = .ok (.getfield 18, 3) := by decide +kernel
theorem dX3_copyFrom_30 : decode cX3_copyFrom 30 = .ok (.invokestatic 42, 3) := by decide +kernel
theorem dX3_copyFrom_33 : decode cX3_copyFrom 33 = .ok (.aload_n 1, 1) := by decide +kernel
theorem dX3_copyFrom_34 : decode cX3_copyFrom 34 = .ok (.getfield 21, 3) := by decide +kernel
theorem dX3_copyFrom_37 : decode cX3_copyFrom 37 = .ok (.aload_n 0, 1) := by decide +kernel
theorem dX3_copyFrom_38 : decode cX3_copyFrom 38 = .ok (.getfield 21, 3) := by decide +kernel
theorem dX3_copyFrom_41 : decode cX3_copyFrom 41 = .ok (.invokestatic 42, 3) := by decide +kernel
theorem dX3_copyFrom_44 : decode cX3_copyFrom 44 = .ok (.aload_n 1, 1) := by decide +kernel
theorem dX3_copyFrom_45 : decode cX3_copyFrom 45 = .ok (.getfield 24, 3) := by decide +kernel
theorem dX3_copyFrom_48 : decode cX3_copyFrom 48 = .ok (.aload_n 0, 1) := by decide +kernel
theorem dX3_copyFrom_49 : decode cX3_copyFrom 49 = .ok (.getfield 24, 3) := by decide +kernel
theorem dX3_copyFrom_52 : decode cX3_copyFrom 52 = .ok (.invokestatic 42, 3) := by decide +kernel
theorem dX3_copyFrom_55 : decode cX3_copyFrom 55 = .ok (.aload_n 1, 1) := by decide +kernel
theorem dX3_copyFrom_56 : decode cX3_copyFrom 56 = .ok (.getfield 27, 3) := by decide +kernel
theorem dX3_copyFrom_59 : decode cX3_copyFrom 59 = .ok (.aload_n 0, 1) := by decide +kernel
theorem dX3_copyFrom_60 : decode cX3_copyFrom 60 = .ok (.getfield 27, 3) := by decide +kernel
theorem dX3_copyFrom_63 : decode cX3_copyFrom 63 = .ok (.invokestatic 42, 3) := by decide +kernel
theorem dX3_copyFrom_66 : decode cX3_copyFrom 66 = .ok (.aload_n 1, 1) := by decide +kernel
theorem dX3_copyFrom_67 : decode cX3_copyFrom 67 = .ok (.getfield 30, 3) := by decide +kernel
theorem dX3_copyFrom_70 : decode cX3_copyFrom 70 = .ok (.aload_n 0, 1) := by decide +kernel
theorem dX3_copyFrom_71 : decode cX3_copyFrom 71 = .ok (.getfield 30, 3) := by decide +kernel
theorem dX3_copyFrom_74 : decode cX3_copyFrom 74 = .ok (.invokestatic 42, 3) := by decide +kernel
theorem dX3_copyFrom_77 : decode cX3_copyFrom 77 = .ok (.aload_n 1, 1) := by decide +kernel
theorem dX3_copyFrom_78 : decode cX3_copyFrom 78 = .ok (.getfield 33, 3) := by decide +kernel
theorem dX3_copyFrom_81 : decode cX3_copyFrom 81 = .ok (.aload_n 0, 1) := by decide +kernel
theorem dX3_copyFrom_82 : decode cX3_copyFrom 82 = .ok (.getfield 33, 3) := by decide +kernel
theorem dX3_copyFrom_85 : decode cX3_copyFrom 85 = .ok (.invokestatic 42, 3) := by decide +kernel
theorem dX3_copyFrom_88 : decode cX3_copyFrom 88 = .ok (.aload_n 1, 1) := by decide +kernel
theorem dX3_copyFrom_89 : decode cX3_copyFrom 89 = .ok (.getfield 36, 3) := by decide +kernel
theorem dX3_copyFrom_92 : decode cX3_copyFrom 92 = .ok (.aload_n 0, 1) := by decide +kernel
theorem dX3_copyFrom_93 : decode cX3_copyFrom 93 = .ok (.getfield 36, 3) := by decide +kernel
theorem dX3_copyFrom_96 : decode cX3_copyFrom 96 = .ok (.invokestatic 42, 3) := by decide +kernel
theorem dX3_copyFrom_99 : decode cX3_copyFrom 99 = .ok (.aload_n 0, 1) := by decide +kernel
theorem dX3_copyFrom_100 : decode cX3_copyFrom 100 = .ok (.aload_n 1, 1) := by decide +kernel
theorem dX3_copyFrom_101 : decode cX3_copyFrom 101 = .ok (.getfield 46, 3) := by decide +kernel
theorem dX3_copyFrom_104 : decode cX3_copyFrom 104 = .ok (.putfield 46, 3) := by decide +kernel
theorem dX3_copyFrom_107 : decode cX3_copyFrom 107 = .ok (.aload_n 0, 1) := by decide +kernel
theorem dX3_copyFrom_108 : decode cX3_copyFrom 108 = .ok (.aload_n 1, 1) := by decide +kernel
theorem dX3_copyFrom_109 : decode cX3_copyFrom 109 = .ok (.getfield 50, 3) := by decide +kernel
theorem dX3_copyFrom_112 : decode cX3_copyFrom 112 = .ok (.putfield 50, 3) := by decide +kernel
theorem dX3_copyFrom_115 : decode cX3_copyFrom 115 = .ok (.aload_n 0, 1) := by decide +kernel
theorem dX3_copyFrom_116 : decode cX3_copyFrom 116 = .ok (.aload_n 1, 1) := by decide +kernel
theorem dX3_copyFrom_117 : decode cX3_copyFrom 117 = .ok (.getfield 53, 3) := by decide +kernel
theorem dX3_copyFrom_120 : decode cX3_copyFrom 120 = .ok (.putfield 53, 3) := by decide +kernel
theorem dX3_copyFrom_123 : decode cX3_copyFrom 123 = .ok (.aload_n 0, 1) := by decide +kernel
theorem dX3_copyFrom_124 : decode cX3_copyFrom 124 = .ok (.aload_n 1, 1) := by decide +kernel
theorem dX3_copyFrom_125 : decode cX3_copyFrom 125 = .ok (.getfield 56, 3) := by decide +kernel
theorem dX3_copyFrom_128 : decode cX3_copyFrom 128 = .ok (.putfield 56, 3) := by decide +kernel
theorem dX3_copyFrom_131 : decode cX3_copyFrom 131 = .ok (.aload_n 0, 1) := by decide +kernel
theorem dX3_copyFrom_132 : decode cX3_copyFrom 132 = .ok (.aload_n 1, 1) := by decide +kernel
theorem dX3_copyFrom_133 : decode cX3_copyFrom 133 = .ok (.getfield 59, 3) := by decide +kernel
theorem dX3_copyFrom_136 : decode cX3_copyFrom 136 = .ok (.putfield 59, 3) := by decide +kernel
theorem dX3_copyFrom_139 : decode cX3_copyFrom 139 = .ok (.aload_n 0, 1) := by decide +kernel
theorem dX3_copyFrom_140 : decode cX3_copyFrom 140 = .ok (.aload_n 1, 1) := by decide +kernel
theorem dX3_copyFrom_141 : decode cX3_copyFrom 141 = .ok (.getfield 62, 3) := by decide +kernel
theorem dX3_copyFrom_144 : decode cX3_copyFrom 144 = .ok (.putfield 62, 3) := by decide +kernel
theorem dX3_copyFrom_147 : decode cX3_copyFrom 147 = .ok (.return_, 1) := by decide +kernel
theorem dX3_depth_0 : decode cX3_depth 0 = .ok (.aload_n 0, 1) := by decide +kernel
theorem dX3_depth_1 : decode cX3_depth 1 = .ok (.getfield 18, 3) := by decide +kernel
theorem dX3_depth_4 : decode cX3_depth 4 = .ok (.iload_n 1, 1) := by decide +kernel
theorem dX3_depth_5 : decode cX3_depth 5 = .ok (.iaload, 1) := by decide +kernel
theorem dX3_depth_6 : decode cX3_depth 6 = .ok (.iconst 5, 1) := by decide +kernel
theorem dX3_depth_7 : decode cX3_depth 7 = .ok (.idiv, 1) := by decide +kernel
theorem dX3_depth_8 : decode cX3_depth 8 = .ok (.ireturn, 1) := by decide +kernel
set_option maxRecDepth 20000 in
theorem ggX3_isFrozen_X4_isIn : GoodIn wsX3_isFrozen wsX4_isIn := goodIn_r _ [4] (by decide +kernel) (by decide +kernel)
set_option maxRecDepth 20000 in
theorem gX3_isFrozen_X4_isIn_n65 : GoodIn wsX3_isFrozen (wsX4_isIn) := ggX3_isFrozen_X4_isIn
theorem dX3_isFrozen_0 : decode cX3_isFrozen 0 = .ok (.aload_n 0, 1) := by decide +kernel
theorem dX3_isFrozen_1 : decode cX3_isFrozen 1 = .ok (.getfield 46, 3) := by decide +kernel
theorem dX3_isFrozen_4 : decode cX3_isFrozen 4 = .ok (.iload_n 1, 1) := by decide +kernel
theorem dX3_isFrozen_5 : decode cX3_isFrozen 5 = .ok (.invokestatic 65, 3) := by decide +kernel
theorem dX3_isFrozen_8 : decode cX3_isFrozen 8 = .ok (.ireturn, 1) := by decide +kernel
set_option maxRecDepth 20000 in
theorem ggX3_hasDucks_X4_isIn : GoodIn wsX3_hasDucks wsX4_isIn := goodIn_r _ [4] (by decide +kernel) (by decide +kernel)
set_option maxRecDepth 20000 in
theorem gX3_hasDucks_X4_isIn_n65 : GoodIn wsX3_hasDucks (wsX4_isIn) := ggX3_hasDucks_X4_isIn
theorem dX3_hasDucks_0 : decode cX3_hasDucks 0 = .ok (.aload_n 0, 1) := by decide +kernel
theorem dX3_hasDucks_1 : decode cX3_hasDucks 1 = .ok (.getfield 50, 3) := by decide +kernel
theorem dX3_hasDucks_4 : decode cX3_hasDucks 4 = .ok (.iload_n 1, 1) := by decide +kernel
theorem dX3_hasDucks_5 : decode cX3_hasDucks 5 = .ok (.invokestatic 65, 3) := by decide +kernel
theorem dX3_hasDucks_8 : decode cX3_hasDucks 8 = .ok (.ireturn, 1) := by decide +kernel
theorem dX3_thaw_0 : decode cX3_thaw 0 = .ok (.aload_n 0, 1) := by decide +kernel
theorem dX3_thaw_1 : decode cX3_thaw 1 = .ok (.dup, 1) := by decide +kernel
theorem dX3_thaw_2 : decode cX3_thaw 2 = .ok (.getfield 46, 3) := by decide +kernel
theorem dX3_thaw_5 : decode cX3_thaw 5 = .ok (.iconst 1, 1) := by decide +kernel
theorem dX3_thaw_6 : decode cX3_thaw 6 = .ok (.iload_n 1, 1) := by decide +kernel
theorem dX3_thaw_7 : decode cX3_thaw 7 = .ok (.ishl, 1) := by decide +kernel
theorem dX3_thaw_8 : decode cX3_thaw 8 = .ok (.iconst (-1), 1) := by decide +kernel
theorem dX3_thaw_9 : decode cX3_thaw 9 = .ok (.ixor, 1) := by decide +kernel
theorem dX3_thaw_10 : decode cX3_thaw 10 = .ok (.iand, 1) := by decide +kernel
theorem dX3_thaw_11 : decode cX3_thaw 11 = .ok (.putfield 46, 3) := by decide +kernel
theorem dX3_thaw_14 : decode cX3_thaw 14 = .ok (.return_, 1) := by decide +kernel
theorem dX3_drainDownTo_0 : decode cX3_drainDownTo 0 = .ok (.aload_n 0, 1) := by decide +kernel
theorem dX3_drainDownTo_1 : decode cX3_drainDownTo 1 = .ok (.getfield 18, 3) := by decide +kernel
theorem dX3_drainDownTo_4 : decode cX3_drainDownTo 4 = .ok (.iload_n 1, 1) := by decide +kernel
theorem dX3_drainDownTo_5 : decode cX3_drainDownTo 5 = .ok (.iaload, 1) := by decide +kernel
theorem dX3_drainDownTo_6 : decode cX3_drainDownTo 6 = .ok (.iload_n 2, 1) := by decide +kernel
theorem dX3_drainDownTo_7 : decode cX3_drainDownTo 7 = .ok (.isub, 1) := by decide +kernel
theorem dX3_drainDownTo_8 : decode cX3_drainDownTo 8 = .ok (.istore_n 3, 1) := by decide +kernel
theorem dX3_drainDownTo_9 : decode cX3_drainDownTo 9 = .ok (.iload_n 3, 1) := by decide +kernel
theorem dX3_drainDownTo_10 : decode cX3_drainDownTo 10 = .ok (.ifCond .gt 4, 3) := by decide +kernel
theorem dX3_drainDownTo_13 : decode cX3_drainDownTo 13 = .ok (.return_, 1) := by decide +kernel
theorem dX3_drainDownTo_14 : decode cX3_drainDownTo 14 = .ok (.aload_n 0, 1) := by decide +kernel
theorem dX3_drainDownTo_15 : decode cX3_drainDownTo 15 = .ok (.getfield 18, 3) := by decide +kernel
theorem dX3_drainDownTo_18 : decode cX3_drainDownTo 18 = .ok (.iload_n 1, 1) := by decide +kernel
theorem dX3_drainDownTo_19 : decode cX3_drainDownTo 19 = .ok (.iload_n 2, 1) := by decide +kernel
theorem dX3_drainDownTo_20 : decode cX3_drainDownTo 20 = .ok (.iastore, 1) := by decide +kernel
theorem dX3_drainDownTo_21 : decode cX3_drainDownTo 21 = .ok (.aload_n 0, 1) := by decide +kernel
theorem dX3_drainDownTo_22 : decode cX3_drainDownTo 22 = .ok (.dup, 1) := by decide +kernel
theorem dX3_drainDownTo_23 : decode cX3_drainDownTo 23 = .ok (.getfield 62, 3) := by decide +kernel
theorem dX3_drainDownTo_26 : decode cX3_drainDownTo 26 = .ok (.iload_n 3, 1) := by decide +kernel
theorem dX3_drainDownTo_27 : decode cX3_drainDownTo 27 = .ok (.iadd, 1) := by decide +kernel
theorem dX3_drainDownTo_28 : decode cX3_drainDownTo 28 = .ok (.putfield 62, 3) := by decide +kernel
theorem dX3_drainDownTo_31 : decode cX3_drainDownTo 31 = .ok (.return_, 1) := by decide +kernel
set_option maxRecDepth 20000 in
theorem ggX3_letPass_X3_shine : GoodIn wsX3_letPass wsX3_shine := goodIn_r _ [5, 6, 7, 8, 9, 10, 11, 12, 13, 14, 15, 16, 4, 17, 18, 19, 20, 49, 50, 51, 52, 53, 54, 55, 56, 57, 58, 59, 60, 61, 62, 63] (by decide +kernel) (by decide +kernel)
set_option maxRecDepth 20000 in
theorem gX3_letPass_X3_shine : GoodIn wsX3_letPass (wsV RX3 69 RX3 yX3_shine wsX3_shine) := goodIn_app (goodIn_of _ (by decide +kernel)) ggX3_letPass_X3_shine
set_option maxRecDepth 20000 in
theorem ggX3_letPass_X3_freeze : GoodIn wsX3_letPass wsX3_freeze := goodIn_r _ [24, 13, 25, 26, 27, 4, 28, 6, 49, 50, 51, 52, 53, 54, 55, 56, 57, 58, 59, 60, 61, 62, 63] (by decide +kernel) (by decide +kernel)
set_option maxRecDepth 20000 in
theorem gX3_letPass_X3_freeze : GoodIn wsX3_letPass (wsV RX3 72 RX3 yX3_freeze wsX3_freeze) := goodIn_app (goodIn_of _ (by decide +kernel)) ggX3_letPass_X3_freeze
set_option maxRecDepth 20000 in
theorem ggX3_letPass_X3_endDay : GoodIn wsX3_letPass wsX3_endDay := goodIn_r _ [32, 33, 6, 7, 34, 14, 15, 16, 4, 17, 13, 18, 19, 20, 35, 36, 37, 38, 39, 40, 41, 49, 50, 51, 52, 53, 54, 55, 56, 57, 58, 59, 60, 61, 62, 63] (by decide +kernel) (by decide +kernel)
set_option maxRecDepth 20000 in
theorem gX3_letPass_X3_endDay : GoodIn wsX3_letPass (wsV RX3 75 RX3 yX3_endDay wsX3_endDay) := goodIn_app (goodIn_of _ (by decide +kernel)) ggX3_letPass_X3_endDay
set_option maxRecDepth 20000 in
theorem ggX3_letPass_X3_rain : GoodIn wsX3_letPass wsX3_rain := goodIn_r _ [45, 46, 47, 6, 48, 8, 9, 10, 11, 14, 15, 16, 4, 17, 13, 18, 19, 20, 49, 50, 51, 52, 53, 54, 55, 56, 57, 58, 59, 60, 61, 62, 63] (by decide +kernel) (by decide +kernel)
set_option maxRecDepth 20000 in
theorem gX3_letPass_X3_rain : GoodIn wsX3_letPass (wsV RX3 78 RX3 yX3_rain wsX3_rain) := goodIn_app (goodIn_of _ (by decide +kernel)) ggX3_letPass_X3_rain
theorem dX3_letPass_0 : decode cX3_letPass 0 = .ok (.iload_n 1, 1) := by decide +kernel
theorem dX3_letPass_1 : decode cX3_letPass 1 = .ok (.ifCond .ne 10, 3) := by decide +kernel
theorem dX3_letPass_4 : decode cX3_letPass 4 = .ok (.aload_n 0, 1) := by decide +kernel
theorem dX3_letPass_5 : decode cX3_letPass 5 = .ok (.invokevirtual 69, 3) := by decide +kernel
theorem dX3_letPass_8 : decode cX3_letPass 8 = .ok (.goto 44, 3) := by decide +kernel
theorem dX3_letPass_11 : decode cX3_letPass 11 = .ok (.iload_n 1, 1) := by decide +kernel
theorem dX3_letPass_12 : decode cX3_letPass 12 = .ok (.bipush 10, 2) := by decide +kernel
theorem dX3_letPass_14 : decode cX3_letPass 14 = .ok (.if_icmp .ne 10, 3) := by decide +kernel
theorem dX3_letPass_17 : decode cX3_letPass 17 = .ok (.aload_n 0, 1) := by decide +kernel
theorem dX3_letPass_18 : decode cX3_letPass 18 = .ok (.invokevirtual 72, 3) := by decide +kernel
theorem dX3_letPass_21 : decode cX3_letPass 21 = .ok (.goto 31, 3) := by decide +kernel
theorem dX3_letPass_24 : decode cX3_letPass 24 = .ok (.iload_n 1, 1) := by decide +kernel
theorem dX3_letPass_25 : decode cX3_letPass 25 = .ok (.bipush 11, 2) := by decide +kernel
theorem dX3_letPass_27 : decode cX3_letPass 27 = .ok (.if_icmp .ne 10, 3) := by decide +kernel
theorem dX3_letPass_30 : decode cX3_letPass 30 = .ok (.aload_n 0, 1) := by decide +kernel
theorem dX3_letPass_31 : decode cX3_letPass 31 = .ok (.invokevirtual 75, 3) := by decide +kernel
theorem dX3_letPass_34 : decode cX3_letPass 34 = .ok (.goto 18, 3) := by decide +kernel
theorem dX3_letPass_37 : decode cX3_letPass 37 = .ok (.iload_n 1, 1) := by decide +kernel
theorem dX3_letPass_38 : decode cX3_letPass 38 = .ok (.ifCond .le 14, 3) := by decide +kernel
theorem dX3_letPass_41 : decode cX3_letPass 41 = .ok (.iload_n 1, 1) := by decide +kernel
theorem dX3_letPass_42 : decode cX3_letPass 42 = .ok (.bipush 9, 2) := by decide +kernel
theorem dX3_letPass_44 : decode cX3_letPass 44 = .ok (.if_icmp .gt 8, 3) := by decide +kernel
theorem dX3_letPass_47 : decode cX3_letPass 47 = .ok (.aload_n 0, 1) := by decide +kernel
theorem dX3_letPass_48 : decode cX3_letPass 48 = .ok (.iload_n 1, 1) := by decide +kernel
theorem dX3_letPass_49 : decode cX3_letPass 49 = .ok (.invokevirtual 78, 3) := by decide +kernel
theorem dX3_letPass_52 : decode cX3_letPass 52 = .ok (.return_, 1) := by decide +kernel
set_option maxRecDepth 20000 in
theorem ggX3_rain_X3_isFrozen : GoodIn wsX3_rain wsX3_isFrozen := goodIn_r _ [13, 14, 15, 16, 17, 18, 19, 20, 21, 22, 23, 24, 25, 26, 27, 28, 29, 30, 31, 32] (by decide +kernel) (by decide +kernel)
set_option maxRecDepth 20000 in
theorem gX3_rain_X3_isFrozen : GoodIn wsX3_rain (wsV RX3 82 RX3 yX3_isFrozen wsX3_isFrozen) := goodIn_app (goodIn_of _ (by decide +kernel)) ggX3_rain_X3_isFrozen
theorem dX3_rain_0 : decode cX3_rain 0 = .ok (.iconst 0, 1) := by decide +kernel
theorem dX3_rain_1 : decode cX3_rain 1 = .ok (.istore_n 2, 1) := by decide +kernel
theorem dX3_rain_2 : decode cX3_rain 2 = .ok (.iconst 0, 1) := by decide +kernel
theorem dX3_rain_3 : decode cX3_rain 3 = .ok (.istore_n 3, 1) := by decide +kernel
theorem dX3_rain_4 : decode cX3_rain 4 = .ok (.iload_n 3, 1) := by decide +kernel
theorem dX3_rain_5 : decode cX3_rain 5 = .ok (.bipush 12, 2) := by decide +kernel
theorem dX3_rain_7 : decode cX3_rain 7 = .ok (.if_icmp .ge 81, 3) := by decide +kernel
theorem dX3_rain_10 : decode cX3_rain 10 = .ok (.aload_n 0, 1) := by decide +kernel
theorem dX3_rain_11 : decode cX3_rain 11 = .ok (.iload_n 3, 1) := by decide +kernel
theorem dX3_rain_12 : decode cX3_rain 12 = .ok (.invokevirtual 82, 3) := by decide +kernel
theorem dX3_rain_15 : decode cX3_rain 15 = .ok (.ifCond .eq 18, 3) := by decide +kernel
theorem dX3_rain_18 : decode cX3_rain 18 = .ok (.aload_n 0, 1) := by decide +kernel
theorem dX3_rain_19 : decode cX3_rain 19 = .ok (.dup, 1) := by decide +kernel
theorem dX3_rain_20 : decode cX3_rain 20 = .ok (.getfield 62, 3) := by decide +kernel
theorem dX3_rain_23 : decode cX3_rain 23 = .ok (.iload_n 2, 1) := by decide +kernel
theorem dX3_rain_24 : decode cX3_rain 24 = .ok (.iadd, 1) := by decide +kernel
theorem dX3_rain_25 : decode cX3_rain 25 = .ok (.putfield 62, 3) := by decide +kernel
theorem dX3_rain_28 : decode cX3_rain 28 = .ok (.iconst 0, 1) := by decide +kernel
theorem dX3_rain_29 : decode cX3_rain 29 = .ok (.istore_n 2, 1) := by decide +kernel
theorem dX3_rain_30 : decode cX3_rain 30 = .ok (.goto 52, 3) := by decide +kernel
theorem dX3_rain_33 : decode cX3_rain 33 = .ok (.aload_n 0, 1) := by decide +kernel
theorem dX3_rain_34 : decode cX3_rain 34 = .ok (.dup, 1) := by decide +kernel
theorem dX3_rain_35 : decode cX3_rain 35 = .ok (.getfield 56, 3) := by decide +kernel
theorem dX3_rain_38 : decode cX3_rain 38 = .ok (.iload_n 1, 1) := by decide +kernel
theorem dX3_rain_39 : decode cX3_rain 39 = .ok (.iadd, 1) := by decide +kernel
theorem dX3_rain_40 : decode cX3_rain 40 = .ok (.putfield 56, 3) := by decide +kernel
theorem dX3_rain_43 : decode cX3_rain 43 = .ok (.aload_n 0, 1) := by decide +kernel
theorem dX3_rain_44 : decode cX3_rain 44 = .ok (.getfield 18, 3) := by decide +kernel
theorem dX3_rain_47 : decode cX3_rain 47 = .ok (.iload_n 3, 1) := by decide +kernel
theorem dX3_rain_48 : decode cX3_rain 48 = .ok (.iaload, 1) := by decide +kernel
theorem dX3_rain_49 : decode cX3_rain 49 = .ok (.iload_n 1, 1) := by decide +kernel
theorem dX3_rain_50 : decode cX3_rain 50 = .ok (.iadd, 1) := by decide +kernel
theorem dX3_rain_51 : decode cX3_rain 51 = .ok (.iload_n 2, 1) := by decide +kernel
theorem dX3_rain_52 : decode cX3_rain 52 = .ok (.iadd, 1) := by decide +kernel
theorem dX3_rain_53 : decode cX3_rain 53 = .ok (.istore 4, 2) := by decide +kernel
theorem dX3_rain_55 : decode cX3_rain 55 = .ok (.aload_n 0, 1) := by decide +kernel
theorem dX3_rain_56 : decode cX3_rain 56 = .ok (.getfield 18, 3) := by decide +kernel
theorem dX3_rain_59 : decode cX3_rain 59 = .ok (.iload_n 3, 1) := by decide +kernel
theorem dX3_rain_60 : decode cX3_rain 60 = .ok (.iload 4, 2) := by decide +kernel
theorem dX3_rain_62 : decode cX3_rain 62 = .ok (.aload_n 0, 1) := by decide +kernel
theorem dX3_rain_63 : decode cX3_rain 63 = .ok (.getfield 15, 3) := by decide +kernel
theorem dX3_rain_66 : decode cX3_rain 66 = .ok (.iload_n 3, 1) := by decide +kernel
theorem dX3_rain_67 : decode cX3_rain 67 = .ok (.iaload, 1) := by decide +kernel
theorem dX3_rain_68 : decode cX3_rain 68 = .ok (.invokestatic 86, 3) := by decide +kernel
theorem dX3_rain_71 : decode cX3_rain 71 = .ok (.iastore, 1) := by decide +kernel
theorem dX3_rain_72 : decode cX3_rain 72 = .ok (.iload 4, 2) := by decide +kernel
theorem dX3_rain_74 : decode cX3_rain 74 = .ok (.aload_n 0, 1) := by decide +kernel
theorem dX3_rain_75 : decode cX3_rain 75 = .ok (.getfield 18, 3) := by decide +kernel
theorem dX3_rain_78 : decode cX3_rain 78 = .ok (.iload_n 3, 1) := by decide +kernel
theorem dX3_rain_79 : decode cX3_rain 79 = .ok (.iaload, 1) := by decide +kernel
theorem dX3_rain_80 : decode cX3_rain 80 = .ok (.isub, 1) := by decide +kernel
theorem dX3_rain_81 : decode cX3_rain 81 = .ok (.istore_n 2, 1) := by decide +kernel
theorem dX3_rain_82 : decode cX3_rain 82 = .ok (.iinc 3 1, 3) := by decide +kernel
theorem dX3_rain_85 : decode cX3_rain 85 = .ok (.goto (-81), 3) := by decide +kernel
theorem dX3_rain_88 : decode cX3_rain 88 = .ok (.aload_n 0, 1) := by decide +kernel
theorem dX3_rain_89 : decode cX3_rain 89 = .ok (.dup, 1) := by decide +kernel
theorem dX3_rain_90 : decode cX3_rain 90 = .ok (.getfield 62, 3) := by decide +kernel
theorem dX3_rain_93 : decode cX3_rain 93 = .ok (.iload_n 2, 1) := by decide +kernel
theorem dX3_rain_94 : decode cX3_rain 94 = .ok (.iadd, 1) := by decide +kernel
theorem dX3_rain_95 : decode cX3_rain 95 = .ok (.putfield 62, 3) := by decide +kernel
theorem dX3_rain_98 : decode cX3_rain 98 = .ok (.return_, 1) := by decide +kernel
set_option maxRecDepth 20000 in
theorem ggX3_shine_X3_isFrozen : GoodIn wsX3_shine wsX3_isFrozen := goodIn_r _ [13, 8, 14, 15, 16, 17, 18, 19, 20, 21, 22, 23, 24, 25, 26, 27, 28, 29, 30, 31] (by decide +kernel) (by decide +kernel)
set_option maxRecDepth 20000 in
theorem gX3_shine_X3_isFrozen : GoodIn wsX3_shine (wsV RX3 82 RX3 yX3_isFrozen wsX3_isFrozen) := goodIn_app (goodIn_of _ (by decide +kernel)) ggX3_shine_X3_isFrozen
theorem dX3_shine_0 : decode cX3_shine 0 = .ok (.iconst 0, 1) := by decide +kernel
theorem dX3_shine_1 : decode cX3_shine 1 = .ok (.istore_n 1, 1) := by decide +kernel
theorem dX3_shine_2 : decode cX3_shine 2 = .ok (.iload_n 1, 1) := by decide +kernel
theorem dX3_shine_3 : decode cX3_shine 3 = .ok (.bipush 12, 2) := by decide +kernel
theorem dX3_shine_5 : decode cX3_shine 5 = .ok (.if_icmp .ge 56, 3) := by decide +kernel
theorem dX3_shine_8 : decode cX3_shine 8 = .ok (.aload_n 0, 1) := by decide +kernel
theorem dX3_shine_9 : decode cX3_shine 9 = .ok (.iload_n 1, 1) := by decide +kernel
theorem dX3_shine_10 : decode cX3_shine 10 = .ok (.invokevirtual 82, 3) := by decide +kernel
theorem dX3_shine_13 : decode cX3_shine 13 = .ok (.ifCond .eq 6, 3) := by decide +kernel
theorem dX3_shine_16 : decode cX3_shine 16 = .ok (.goto 39, 3) := by decide +kernel
theorem dX3_shine_19 : decode cX3_shine 19 = .ok (.aload_n 0, 1) := by decide +kernel
theorem dX3_shine_20 : decode cX3_shine 20 = .ok (.getfield 18, 3) := by decide +kernel
theorem dX3_shine_23 : decode cX3_shine 23 = .ok (.iload_n 1, 1) := by decide +kernel
theorem dX3_shine_24 : decode cX3_shine 24 = .ok (.iaload, 1) := by decide +kernel
theorem dX3_shine_25 : decode cX3_shine 25 = .ok (.aload_n 0, 1) := by decide +kernel
theorem dX3_shine_26 : decode cX3_shine 26 = .ok (.getfield 9, 3) := by decide +kernel
theorem dX3_shine_29 : decode cX3_shine 29 = .ok (.iconst 1, 1) := by decide +kernel
theorem dX3_shine_30 : decode cX3_shine 30 = .ok (.iaload, 1) := by decide +kernel
theorem dX3_shine_31 : decode cX3_shine 31 = .ok (.invokestatic 86, 3) := by decide +kernel
theorem dX3_shine_34 : decode cX3_shine 34 = .ok (.istore_n 2, 1) := by decide +kernel
theorem dX3_shine_35 : decode cX3_shine 35 = .ok (.aload_n 0, 1) := by decide +kernel
theorem dX3_shine_36 : decode cX3_shine 36 = .ok (.getfield 18, 3) := by decide +kernel
theorem dX3_shine_39 : decode cX3_shine 39 = .ok (.iload_n 1, 1) := by decide +kernel
theorem dX3_shine_40 : decode cX3_shine 40 = .ok (.dup2, 1) := by decide +kernel
theorem dX3_shine_41 : decode cX3_shine 41 = .ok (.iaload, 1) := by decide +kernel
theorem dX3_shine_42 : decode cX3_shine 42 = .ok (.iload_n 2, 1) := by decide +kernel
theorem dX3_shine_43 : decode cX3_shine 43 = .ok (.isub, 1) := by decide +kernel
theorem dX3_shine_44 : decode cX3_shine 44 = .ok (.iastore, 1) := by decide +kernel
theorem dX3_shine_45 : decode cX3_shine 45 = .ok (.aload_n 0, 1) := by decide +kernel
theorem dX3_shine_46 : decode cX3_shine 46 = .ok (.dup, 1) := by decide +kernel
theorem dX3_shine_47 : decode cX3_shine 47 = .ok (.getfield 59, 3) := by decide +kernel
theorem dX3_shine_50 : decode cX3_shine 50 = .ok (.iload_n 2, 1) := by decide +kernel
theorem dX3_shine_51 : decode cX3_shine 51 = .ok (.iadd, 1) := by decide +kernel
theorem dX3_shine_52 : decode cX3_shine 52 = .ok (.putfield 59, 3) := by decide +kernel
theorem dX3_shine_55 : decode cX3_shine 55 = .ok (.iinc 1 1, 3) := by decide +kernel
theorem dX3_shine_58 : decode cX3_shine 58 = .ok (.goto (-56), 3) := by decide +kernel
theorem dX3_shine_61 : decode cX3_shine 61 = .ok (.aload_n 0, 1) := by decide +kernel
theorem dX3_shine_62 : decode cX3_shine 62 = .ok (.iconst 0, 1) := by decide +kernel
theorem dX3_shine_63 : decode cX3_shine 63 = .ok (.putfield 46, 3) := by decide +kernel
theorem dX3_shine_66 : decode cX3_shine 66 = .ok (.return_, 1) := by decide +kernel
set_option maxRecDepth 20000 in
theorem ggX3_freeze_X3_depth : GoodIn wsX3_freeze wsX3_depth := goodIn_r _ [6, 7, 8, 9, 10, 11, 12, 13, 14, 15, 16, 17, 18, 19, 20, 21, 22] (by decide +kernel) (by decide +kernel)
set_option maxRecDepth 20000 in
theorem gX3_freeze_X3_depth : GoodIn wsX3_freeze (wsV RX3 92 RX3 yX3_depth wsX3_depth) := goodIn_app (goodIn_of _ (by decide +kernel)) ggX3_freeze_X3_depth
theorem dX3_freeze_0 : decode cX3_freeze 0 = .ok (.iconst 0, 1) := by decide +kernel
theorem dX3_freeze_1 : decode cX3_freeze 1 = .ok (.istore_n 1, 1) := by decide +kernel
theorem dX3_freeze_2 : decode cX3_freeze 2 = .ok (.iload_n 1, 1) := by decide +kernel
theorem dX3_freeze_3 : decode cX3_freeze 3 = .ok (.bipush 12, 2) := by decide +kernel
theorem dX3_freeze_5 : decode cX3_freeze 5 = .ok (.if_icmp .ge 30, 3) := by decide +kernel
theorem dX3_freeze_8 : decode cX3_freeze 8 = .ok (.aload_n 0, 1) := by decide +kernel
theorem dX3_freeze_9 : decode cX3_freeze 9 = .ok (.iload_n 1, 1) := by decide +kernel
theorem dX3_freeze_10 : decode cX3_freeze 10 = .ok (.invokevirtual 92, 3) := by decide +kernel
theorem dX3_freeze_13 : decode cX3_freeze 13 = .ok (.iconst 4, 1) := by decide +kernel
theorem dX3_freeze_14 : decode cX3_freeze 14 = .ok (.if_icmp .ge 15, 3) := by decide +kernel
theorem dX3_freeze_17 : decode cX3_freeze 17 = .ok (.aload_n 0, 1) := by decide +kernel
theorem dX3_freeze_18 : decode cX3_freeze 18 = .ok (.dup, 1) := by decide +kernel
theorem dX3_freeze_19 : decode cX3_freeze 19 = .ok (.getfield 46, 3) := by decide +kernel
theorem dX3_freeze_22 : decode cX3_freeze 22 = .ok (.iconst 1, 1) := by decide +kernel
theorem dX3_freeze_23 : decode cX3_freeze 23 = .ok (.iload_n 1, 1) := by decide +kernel
theorem dX3_freeze_24 : decode cX3_freeze 24 = .ok (.ishl, 1) := by decide +kernel
theorem dX3_freeze_25 : decode cX3_freeze 25 = .ok (.ior, 1) := by decide +kernel
theorem dX3_freeze_26 : decode cX3_freeze 26 = .ok (.putfield 46, 3) := by decide +kernel
theorem dX3_freeze_29 : decode cX3_freeze 29 = .ok (.iinc 1 1, 3) := by decide +kernel
theorem dX3_freeze_32 : decode cX3_freeze 32 = .ok (.goto (-30), 3) := by decide +kernel
theorem dX3_freeze_35 : decode cX3_freeze 35 = .ok (.return_, 1) := by decide +kernel
set_option maxRecDepth 20000 in
theorem ggX3_endDay_X3_isFrozen : GoodIn wsX3_endDay wsX3_isFrozen := goodIn_r _ [9, 10, 11, 12, 13, 21, 22, 23, 24, 25, 26, 27, 28, 29, 30, 31, 32, 33, 34, 35] (by decide +kernel) (by decide +kernel)
set_option maxRecDepth 20000 in
theorem gX3_endDay_X3_isFrozen : GoodIn wsX3_endDay (wsV RX3 82 RX3 yX3_isFrozen wsX3_isFrozen) := goodIn_app (goodIn_of _ (by decide +kernel)) ggX3_endDay_X3_isFrozen
set_option maxRecDepth 20000 in
theorem ggX3_endDay_X3_agePermitsAt : GoodIn wsX3_endDay wsX3_agePermitsAt := goodIn_r _ [17, 18, 19, 12, 20, 21, 22, 23, 24, 25, 26, 27, 28, 29, 30, 31, 32, 33, 34, 35] (by decide +kernel) (by decide +kernel)
set_option maxRecDepth 20000 in
theorem gX3_endDay_X3_agePermitsAt : GoodIn wsX3_endDay (wsV RX3 96 RX3 yX3_agePermitsAt wsX3_agePermitsAt) := goodIn_app (goodIn_of _ (by decide +kernel)) ggX3_endDay_X3_agePermitsAt
theorem dX3_endDay_0 : decode cX3_endDay 0 = .ok (.aload_n 0, 1) := by decide +kernel
theorem dX3_endDay_1 : decode cX3_endDay 1 = .ok (.iconst 0, 1) := by decide +kernel
theorem dX3_endDay_2 : decode cX3_endDay 2 = .ok (.putfield 50, 3) := by decide +kernel
theorem dX3_endDay_5 : decode cX3_endDay 5 = .ok (.iconst 0, 1) := by decide +kernel
theorem dX3_endDay_6 : decode cX3_endDay 6 = .ok (.istore_n 1, 1) := by decide +kernel
theorem dX3_endDay_7 : decode cX3_endDay 7 = .ok (.iload_n 1, 1) := by decide +kernel
theorem dX3_endDay_8 : decode cX3_endDay 8 = .ok (.bipush 12, 2) := by decide +kernel
theorem dX3_endDay_10 : decode cX3_endDay 10 = .ok (.if_icmp .ge 52, 3) := by decide +kernel
theorem dX3_endDay_13 : decode cX3_endDay 13 = .ok (.aload_n 0, 1) := by decide +kernel
theorem dX3_endDay_14 : decode cX3_endDay 14 = .ok (.iload_n 1, 1) := by decide +kernel
theorem dX3_endDay_15 : decode cX3_endDay 15 = .ok (.invokevirtual 82, 3) := by decide +kernel
theorem dX3_endDay_18 : decode cX3_endDay 18 = .ok (.ifCond .eq 6, 3) := by decide +kernel
theorem dX3_endDay_21 : decode cX3_endDay 21 = .ok (.goto 35, 3) := by decide +kernel
theorem dX3_endDay_24 : decode cX3_endDay 24 = .ok (.aload_n 0, 1) := by decide +kernel
theorem dX3_endDay_25 : decode cX3_endDay 25 = .ok (.getfield 18, 3) := by decide +kernel
theorem dX3_endDay_28 : decode cX3_endDay 28 = .ok (.iload_n 1, 1) := by decide +kernel
theorem dX3_endDay_29 : decode cX3_endDay 29 = .ok (.iaload, 1) := by decide +kernel
theorem dX3_endDay_30 : decode cX3_endDay 30 = .ok (.aload_n 0, 1) := by decide +kernel
theorem dX3_endDay_31 : decode cX3_endDay 31 = .ok (.getfield 9, 3) := by decide +kernel
theorem dX3_endDay_34 : decode cX3_endDay 34 = .ok (.iconst 2, 1) := by decide +kernel
theorem dX3_endDay_35 : decode cX3_endDay 35 = .ok (.iaload, 1) := by decide +kernel
theorem dX3_endDay_36 : decode cX3_endDay 36 = .ok (.if_icmp .lt 15, 3) := by decide +kernel
theorem dX3_endDay_39 : decode cX3_endDay 39 = .ok (.aload_n 0, 1) := by decide +kernel
theorem dX3_endDay_40 : decode cX3_endDay 40 = .ok (.dup, 1) := by decide +kernel
theorem dX3_endDay_41 : decode cX3_endDay 41 = .ok (.getfield 50, 3) := by decide +kernel
theorem dX3_endDay_44 : decode cX3_endDay 44 = .ok (.iconst 1, 1) := by decide +kernel
theorem dX3_endDay_45 : decode cX3_endDay 45 = .ok (.iload_n 1, 1) := by decide +kernel
theorem dX3_endDay_46 : decode cX3_endDay 46 = .ok (.ishl, 1) := by decide +kernel
theorem dX3_endDay_47 : decode cX3_endDay 47 = .ok (.ior, 1) := by decide +kernel
theorem dX3_endDay_48 : decode cX3_endDay 48 = .ok (.putfield 50, 3) := by decide +kernel
theorem dX3_endDay_51 : decode cX3_endDay 51 = .ok (.aload_n 0, 1) := by decide +kernel
theorem dX3_endDay_52 : decode cX3_endDay 52 = .ok (.iload_n 1, 1) := by decide +kernel
theorem dX3_endDay_53 : decode cX3_endDay 53 = .ok (.invokevirtual 96, 3) := by decide +kernel
theorem dX3_endDay_56 : decode cX3_endDay 56 = .ok (.iinc 1 1, 3) := by decide +kernel
theorem dX3_endDay_59 : decode cX3_endDay 59 = .ok (.goto (-52), 3) := by decide +kernel
theorem dX3_endDay_62 : decode cX3_endDay 62 = .ok (.aload_n 0, 1) := by decide +kernel
theorem dX3_endDay_63 : decode cX3_endDay 63 = .ok (.dup, 1) := by decide +kernel
theorem dX3_endDay_64 : decode cX3_endDay 64 = .ok (.getfield 53, 3) := by decide +kernel
theorem dX3_endDay_67 : decode cX3_endDay 67 = .ok (.iconst 1, 1) := by decide +kernel
theorem dX3_endDay_68 : decode cX3_endDay 68 = .ok (.iadd, 1) := by decide +kernel
theorem dX3_endDay_69 : decode cX3_endDay 69 = .ok (.putfield 53, 3) := by decide +kernel
theorem dX3_endDay_72 : decode cX3_endDay 72 = .ok (.return_, 1) := by decide +kernel
set_option maxRecDepth 20000 in
theorem ggX3_agePermitsAt_X4_placeOf : GoodIn wsX3_agePermitsAt wsX4_placeOf := goodIn_r _ [4] (by decide +kernel) (by decide +kernel)
set_option maxRecDepth 20000 in
theorem gX3_agePermitsAt_X4_placeOf_n99 : GoodIn wsX3_agePermitsAt (wsX4_placeOf) := ggX3_agePermitsAt_X4_placeOf
theorem dX3_agePermitsAt_0 : decode cX3_agePermitsAt 0 = .ok (.iconst 0, 1) := by decide +kernel
theorem dX3_agePermitsAt_1 : decode cX3_agePermitsAt 1 = .ok (.istore_n 2, 1) := by decide +kernel
theorem dX3_agePermitsAt_2 : decode cX3_agePermitsAt 2 = .ok (.iload_n 2, 1) := by decide +kernel
theorem dX3_agePermitsAt_3 : decode cX3_agePermitsAt 3 = .ok (.bipush 6, 2) := by decide +kernel
theorem dX3_agePermitsAt_5 : decode cX3_agePermitsAt 5 = .ok (.if_icmp .ge 34, 3) := by decide +kernel
theorem dX3_agePermitsAt_8 : decode cX3_agePermitsAt 8 = .ok (.iload_n 2, 1) := by decide +kernel
theorem dX3_agePermitsAt_9 : decode cX3_agePermitsAt 9 = .ok (.iload_n 1, 1) := by decide +kernel
theorem dX3_agePermitsAt_10 : decode cX3_agePermitsAt 10 = .ok (.invokestatic 99, 3) := by decide +kernel
theorem dX3_agePermitsAt_13 : decode cX3_agePermitsAt 13 = .ok (.istore_n 3, 1) := by decide +kernel
theorem dX3_agePermitsAt_14 : decode cX3_agePermitsAt 14 = .ok (.aload_n 0, 1) := by decide +kernel
theorem dX3_agePermitsAt_15 : decode cX3_agePermitsAt 15 = .ok (.getfield 36, 3) := by decide +kernel
theorem dX3_agePermitsAt_18 : decode cX3_agePermitsAt 18 = .ok (.iload_n 3, 1) := by decide +kernel
theorem dX3_agePermitsAt_19 : decode cX3_agePermitsAt 19 = .ok (.iaload, 1) := by decide +kernel
theorem dX3_agePermitsAt_20 : decode cX3_agePermitsAt 20 = .ok (.ifCond .le 13, 3) := by decide +kernel
theorem dX3_agePermitsAt_23 : decode cX3_agePermitsAt 23 = .ok (.aload_n 0, 1) := by decide +kernel
theorem dX3_agePermitsAt_24 : decode cX3_agePermitsAt 24 = .ok (.getfield 36, 3) := by decide +kernel
theorem dX3_agePermitsAt_27 : decode cX3_agePermitsAt 27 = .ok (.iload_n 3, 1) := by decide +kernel
theorem dX3_agePermitsAt_28 : decode cX3_agePermitsAt 28 = .ok (.dup2, 1) := by decide +kernel
theorem dX3_agePermitsAt_29 : decode cX3_agePermitsAt 29 = .ok (.iaload, 1) := by decide +kernel
theorem dX3_agePermitsAt_30 : decode cX3_agePermitsAt 30 = .ok (.iconst 1, 1) := by decide +kernel
theorem dX3_agePermitsAt_31 : decode cX3_agePermitsAt 31 = .ok (.isub, 1) := by decide +kernel
theorem dX3_agePermitsAt_32 : decode cX3_agePermitsAt 32 = .ok (.iastore, 1) := by decide +kernel
theorem dX3_agePermitsAt_33 : decode cX3_agePermitsAt 33 = .ok (.iinc 2 1, 3) := by decide +kernel
theorem dX3_agePermitsAt_36 : decode cX3_agePermitsAt 36 = .ok (.goto (-34), 3) := by decide +kernel
theorem dX3_agePermitsAt_39 : decode cX3_agePermitsAt 39 = .ok (.return_, 1) := by decide +kernel
set_option maxRecDepth 20000 in
theorem ggX3_hasPermit_X4_placeOf : GoodIn wsX3_hasPermit wsX4_placeOf := goodIn_r _ [4] (by decide +kernel) (by decide +kernel)
set_option maxRecDepth 20000 in
theorem gX3_hasPermit_X4_placeOf_n99 : GoodIn wsX3_hasPermit (wsX4_placeOf) := ggX3_hasPermit_X4_placeOf
theorem dX3_hasPermit_0 : decode cX3_hasPermit 0 = .ok (.aload_n 0, 1) := by decide +kernel
theorem dX3_hasPermit_1 : decode cX3_hasPermit 1 = .ok (.getfield 36, 3) := by decide +kernel
theorem dX3_hasPermit_4 : decode cX3_hasPermit 4 = .ok (.iload_n 1, 1) := by decide +kernel
theorem dX3_hasPermit_5 : decode cX3_hasPermit 5 = .ok (.iload_n 2, 1) := by decide +kernel
theorem dX3_hasPermit_6 : decode cX3_hasPermit 6 = .ok (.invokestatic 99, 3) := by decide +kernel
theorem dX3_hasPermit_9 : decode cX3_hasPermit 9 = .ok (.iaload, 1) := by decide +kernel
theorem dX3_hasPermit_10 : decode cX3_hasPermit 10 = .ok (.ifCond .le 7, 3) := by decide +kernel
theorem dX3_hasPermit_13 : decode cX3_hasPermit 13 = .ok (.iconst 1, 1) := by decide +kernel
theorem dX3_hasPermit_14 : decode cX3_hasPermit 14 = .ok (.goto 4, 3) := by decide +kernel
theorem dX3_hasPermit_17 : decode cX3_hasPermit 17 = .ok (.iconst 0, 1) := by decide +kernel
theorem dX3_hasPermit_18 : decode cX3_hasPermit 18 = .ok (.ireturn, 1) := by decide +kernel
set_option maxRecDepth 20000 in
theorem ggX3_permitsOf_X3_hasPermit : GoodIn wsX3_permitsOf wsX3_hasPermit := goodIn_r _ [5, 6, 7, 8, 9, 10, 11, 12, 13, 14, 15, 16, 17, 18, 19, 20, 21, 22, 23, 24] (by decide +kernel) (by decide +kernel)
set_option maxRecDepth 20000 in
theorem gX3_permitsOf_X3_hasPermit : GoodIn wsX3_permitsOf (wsV RX3 102 RX3 yX3_hasPermit wsX3_hasPermit) := goodIn_app (goodIn_of _ (by decide +kernel)) ggX3_permitsOf_X3_hasPermit
theorem dX3_permitsOf_0 : decode cX3_permitsOf 0 = .ok (.iconst 0, 1) := by decide +kernel
theorem dX3_permitsOf_1 : decode cX3_permitsOf 1 = .ok (.istore_n 2, 1) := by decide +kernel
theorem dX3_permitsOf_2 : decode cX3_permitsOf 2 = .ok (.iconst 0, 1) := by decide +kernel
theorem dX3_permitsOf_3 : decode cX3_permitsOf 3 = .ok (.istore_n 3, 1) := by decide +kernel
theorem dX3_permitsOf_4 : decode cX3_permitsOf 4 = .ok (.iload_n 3, 1) := by decide +kernel
theorem dX3_permitsOf_5 : decode cX3_permitsOf 5 = .ok (.bipush 12, 2) := by decide +kernel
theorem dX3_permitsOf_7 : decode cX3_permitsOf 7 = .ok (.if_icmp .ge 24, 3) := by decide +kernel
theorem dX3_permitsOf_10 : decode cX3_permitsOf 10 = .ok (.aload_n 0, 1) := by decide +kernel
theorem dX3_permitsOf_11 : decode cX3_permitsOf 11 = .ok (.iload_n 1, 1) := by decide +kernel
theorem dX3_permitsOf_12 : decode cX3_permitsOf 12 = .ok (.iload_n 3, 1) := by decide +kernel
theorem dX3_permitsOf_13 : decode cX3_permitsOf 13 = .ok (.invokevirtual 102, 3) := by decide +kernel
theorem dX3_permitsOf_16 : decode cX3_permitsOf 16 = .ok (.ifCond .eq 9, 3) := by decide +kernel
theorem dX3_permitsOf_19 : decode cX3_permitsOf 19 = .ok (.iload_n 2, 1) := by decide +kernel
theorem dX3_permitsOf_20 : decode cX3_permitsOf 20 = .ok (.iconst 1, 1) := by decide +kernel
theorem dX3_permitsOf_21 : decode cX3_permitsOf 21 = .ok (.iload_n 3, 1) := by decide +kernel
theorem dX3_permitsOf_22 : decode cX3_permitsOf 22 = .ok (.ishl, 1) := by decide +kernel
theorem dX3_permitsOf_23 : decode cX3_permitsOf 23 = .ok (.ior, 1) := by decide +kernel
theorem dX3_permitsOf_24 : decode cX3_permitsOf 24 = .ok (.istore_n 2, 1) := by decide +kernel
theorem dX3_permitsOf_25 : decode cX3_permitsOf 25 = .ok (.iinc 3 1, 3) := by decide +kernel
theorem dX3_permitsOf_28 : decode cX3_permitsOf 28 = .ok (.goto (-24), 3) := by decide +kernel
theorem dX3_permitsOf_31 : decode cX3_permitsOf 31 = .ok (.iload_n 2, 1) := by decide +kernel
theorem dX3_permitsOf_32 : decode cX3_permitsOf 32 = .ok (.ireturn, 1) := by decide +kernel
set_option maxRecDepth 20000 in
theorem ggX3_permitHoldersAt_X3_hasPermit : GoodIn wsX3_permitHoldersAt wsX3_hasPermit := goodIn_r _ [5, 6, 7, 8, 9, 10, 11, 12, 13, 14, 15, 16, 17, 18, 19, 20, 21, 22, 23, 24] (by decide +kernel) (by decide +kernel)
set_option maxRecDepth 20000 in
theorem gX3_permitHoldersAt_X3_hasPermit : GoodIn wsX3_permitHoldersAt (wsV RX3 102 RX3 yX3_hasPermit wsX3_hasPermit) := goodIn_app (goodIn_of _ (by decide +kernel)) ggX3_permitHoldersAt_X3_hasPermit
theorem dX3_permitHoldersAt_0 : decode cX3_permitHoldersAt 0 = .ok (.iconst 0, 1) := by decide +kernel
theorem dX3_permitHoldersAt_1 : decode cX3_permitHoldersAt 1 = .ok (.istore_n 2, 1) := by decide +kernel
theorem dX3_permitHoldersAt_2 : decode cX3_permitHoldersAt 2 = .ok (.iconst 0, 1) := by decide +kernel
theorem dX3_permitHoldersAt_3 : decode cX3_permitHoldersAt 3 = .ok (.istore_n 3, 1) := by decide +kernel
theorem dX3_permitHoldersAt_4 : decode cX3_permitHoldersAt 4 = .ok (.iload_n 3, 1) := by decide +kernel
theorem dX3_permitHoldersAt_5 : decode cX3_permitHoldersAt 5 = .ok (.bipush 6, 2) := by decide +kernel
theorem dX3_permitHoldersAt_7 : decode cX3_permitHoldersAt 7 = .ok (.if_icmp .ge 24, 3) := by decide +kernel
theorem dX3_permitHoldersAt_10 : decode cX3_permitHoldersAt 10 = .ok (.aload_n 0, 1) := by decide +kernel
theorem dX3_permitHoldersAt_11 : decode cX3_permitHoldersAt 11 = .ok (.iload_n 3, 1) := by decide +kernel
theorem dX3_permitHoldersAt_12 : decode cX3_permitHoldersAt 12 = .ok (.iload_n 1, 1) := by decide +kernel
theorem dX3_permitHoldersAt_13 : decode cX3_permitHoldersAt 13 = .ok (.invokevirtual 102, 3) := by decide +kernel
theorem dX3_permitHoldersAt_16 : decode cX3_permitHoldersAt 16 = .ok (.ifCond .eq 9, 3) := by decide +kernel
theorem dX3_permitHoldersAt_19 : decode cX3_permitHoldersAt 19 = .ok (.iload_n 2, 1) := by decide +kernel
theorem dX3_permitHoldersAt_20 : decode cX3_permitHoldersAt 20 = .ok (.iconst 1, 1) := by decide +kernel
theorem dX3_permitHoldersAt_21 : decode cX3_permitHoldersAt 21 = .ok (.iload_n 3, 1) := by decide +kernel
theorem dX3_permitHoldersAt_22 : decode cX3_permitHoldersAt 22 = .ok (.ishl, 1) := by decide +kernel
theorem dX3_permitHoldersAt_23 : decode cX3_permitHoldersAt 23 = .ok (.ior, 1) := by decide +kernel
theorem dX3_permitHoldersAt_24 : decode cX3_permitHoldersAt 24 = .ok (.istore_n 2, 1) := by decide +kernel
theorem dX3_permitHoldersAt_25 : decode cX3_permitHoldersAt 25 = .ok (.iinc 3 1, 3) := by decide +kernel
theorem dX3_permitHoldersAt_28 : decode cX3_permitHoldersAt 28 = .ok (.goto (-24), 3) := by decide +kernel
theorem dX3_permitHoldersAt_31 : decode cX3_permitHoldersAt 31 = .ok (.iload_n 2, 1) := by decide +kernel
theorem dX3_permitHoldersAt_32 : decode cX3_permitHoldersAt 32 = .ok (.ireturn, 1) := by decide +kernel
set_option maxRecDepth 20000 in
theorem ggX3_allPermits_X3_permitsOf : GoodIn wsX3_allPermits wsX3_permitsOf := goodIn_r _ [5, 6, 7, 8, 4, 9, 10, 11, 12, 13, 21, 22, 23, 24, 25, 26, 27, 28, 29, 30, 31, 32, 33, 34, 35] (by decide +kernel) (by decide +kernel)
set_option maxRecDepth 20000 in
theorem gX3_allPermits_X3_permitsOf : GoodIn wsX3_allPermits (wsV RX3 105 RX3 yX3_permitsOf wsX3_permitsOf) := goodIn_app (goodIn_of _ (by decide +kernel)) ggX3_allPermits_X3_permitsOf
set_option maxRecDepth 20000 in
theorem ggX3_allPermits_J6_bitCount_0f7a4 : GoodIn wsX3_allPermits wsJ6_bitCount_0f7a4 := goodIn_r _ [17, 18, 19, 20] (by decide +kernel) (by decide +kernel)
set_option maxRecDepth 20000 in
theorem gX3_allPermits_J6_bitCount_0f7a4 : GoodIn wsX3_allPermits (va_wsS RX3 108 yJ6_bitCount_0f7a4 wsJ6_bitCount_0f7a4) := goodIn_app (goodIn_of _ (by decide +kernel)) ggX3_allPermits_J6_bitCount_0f7a4
theorem dX3_allPermits_0 : decode cX3_allPermits 0 = .ok (.iconst 0, 1) := by decide +kernel
theorem dX3_allPermits_1 : decode cX3_allPermits 1 = .ok (.istore_n 1, 1) := by decide +kernel
theorem dX3_allPermits_2 : decode cX3_allPermits 2 = .ok (.iconst 0, 1) := by decide +kernel
theorem dX3_allPermits_3 : decode cX3_allPermits 3 = .ok (.istore_n 2, 1) := by decide +kernel
theorem dX3_allPermits_4 : decode cX3_allPermits 4 = .ok (.iload_n 2, 1) := by decide +kernel
theorem dX3_allPermits_5 : decode cX3_allPermits 5 = .ok (.bipush 6, 2) := by decide +kernel
theorem dX3_allPermits_7 : decode cX3_allPermits 7 = .ok (.if_icmp .ge 20, 3) := by decide +kernel
theorem dX3_allPermits_10 : decode cX3_allPermits 10 = .ok (.iload_n 1, 1) := by decide +kernel
theorem dX3_allPermits_11 : decode cX3_allPermits 11 = .ok (.aload_n 0, 1) := by decide +kernel
theorem dX3_allPermits_12 : decode cX3_allPermits 12 = .ok (.iload_n 2, 1) := by decide +kernel
theorem dX3_allPermits_13 : decode cX3_allPermits 13 = .ok (.invokevirtual 105, 3) := by decide +kernel
theorem dX3_allPermits_16 : decode cX3_allPermits 16 = .ok (.invokestatic 108, 3) := by decide +kernel
theorem dX3_allPermits_19 : decode cX3_allPermits 19 = .ok (.iadd, 1) := by decide +kernel
theorem dX3_allPermits_20 : decode cX3_allPermits 20 = .ok (.istore_n 1, 1) := by decide +kernel
theorem dX3_allPermits_21 : decode cX3_allPermits 21 = .ok (.iinc 2 1, 3) := by decide +kernel
theorem dX3_allPermits_24 : decode cX3_allPermits 24 = .ok (.goto (-20), 3) := by decide +kernel
theorem dX3_allPermits_27 : decode cX3_allPermits 27 = .ok (.iload_n 1, 1) := by decide +kernel
theorem dX3_allPermits_28 : decode cX3_allPermits 28 = .ok (.ireturn, 1) := by decide +kernel
set_option maxRecDepth 20000 in
theorem ggX3_reasonAgainst_X3_hasDucks : GoodIn wsX3_reasonAgainst wsX3_hasDucks := goodIn_r _ [5, 6, 7, 8, 9, 30, 31, 32, 33, 34, 35, 36, 37, 38, 39, 40, 41, 42, 43, 44] (by decide +kernel) (by decide +kernel)
set_option maxRecDepth 20000 in
theorem gX3_reasonAgainst_X3_hasDucks : GoodIn wsX3_reasonAgainst (wsV RX3 113 RX3 yX3_hasDucks wsX3_hasDucks) := goodIn_app (goodIn_of _ (by decide +kernel)) ggX3_reasonAgainst_X3_hasDucks
set_option maxRecDepth 20000 in
theorem ggX3_reasonAgainst_X3_hasPermit : GoodIn wsX3_reasonAgainst wsX3_hasPermit := goodIn_r _ [13, 14, 15, 8, 16, 30, 31, 32, 33, 34, 35, 36, 37, 38, 39, 40, 41, 42, 43, 44] (by decide +kernel) (by decide +kernel)
set_option maxRecDepth 20000 in
theorem gX3_reasonAgainst_X3_hasPermit : GoodIn wsX3_reasonAgainst (wsV RX3 102 RX3 yX3_hasPermit wsX3_hasPermit) := goodIn_app (goodIn_of _ (by decide +kernel)) ggX3_reasonAgainst_X3_hasPermit
set_option maxRecDepth 20000 in
theorem ggX3_reasonAgainst_X3_depth : GoodIn wsX3_reasonAgainst wsX3_depth := goodIn_r _ [20, 21, 30, 31, 32, 33, 34, 35, 36, 37, 38, 39, 40, 41, 42, 43, 44] (by decide +kernel) (by decide +kernel)
set_option maxRecDepth 20000 in
theorem gX3_reasonAgainst_X3_depth : GoodIn wsX3_reasonAgainst (wsV RX3 92 RX3 yX3_depth wsX3_depth) := goodIn_app (goodIn_of _ (by decide +kernel)) ggX3_reasonAgainst_X3_depth
set_option maxRecDepth 20000 in
theorem ggX3_reasonAgainst_X3_isFrozen : GoodIn wsX3_reasonAgainst wsX3_isFrozen := goodIn_r _ [25, 26, 7, 8, 9, 30, 31, 32, 33, 34, 35, 36, 37, 38, 39, 40, 41, 42, 43, 44] (by decide +kernel) (by decide +kernel)
set_option maxRecDepth 20000 in
theorem gX3_reasonAgainst_X3_isFrozen : GoodIn wsX3_reasonAgainst (wsV RX3 82 RX3 yX3_isFrozen wsX3_isFrozen) := goodIn_app (goodIn_of _ (by decide +kernel)) ggX3_reasonAgainst_X3_isFrozen
set_option maxRecDepth 20000 in
theorem ggX3_reasonAgainst_X3_depthKeptOut : GoodIn wsX3_reasonAgainst wsX3_depthKeptOut := goodIn_r _ [29] (by decide +kernel) (by decide +kernel)
set_option maxRecDepth 20000 in
theorem gX3_reasonAgainst_X3_depthKeptOut : GoodIn wsX3_reasonAgainst (va_wsS RX3 116 yX3_depthKeptOut wsX3_depthKeptOut) := goodIn_app (goodIn_of _ (by decide +kernel)) ggX3_reasonAgainst_X3_depthKeptOut
theorem dX3_reasonAgainst_0 : decode cX3_reasonAgainst 0 = .ok (.aload_n 0, 1) := by decide +kernel
theorem dX3_reasonAgainst_1 : decode cX3_reasonAgainst 1 = .ok (.iload_n 2, 1) := by decide +kernel
theorem dX3_reasonAgainst_2 : decode cX3_reasonAgainst 2 = .ok (.invokevirtual 113, 3) := by decide +kernel
theorem dX3_reasonAgainst_5 : decode cX3_reasonAgainst 5 = .ok (.ifCond .eq 5, 3) := by decide +kernel
theorem dX3_reasonAgainst_8 : decode cX3_reasonAgainst 8 = .ok (.iconst 1, 1) := by decide +kernel
theorem dX3_reasonAgainst_9 : decode cX3_reasonAgainst 9 = .ok (.ireturn, 1) := by decide +kernel
theorem dX3_reasonAgainst_10 : decode cX3_reasonAgainst 10 = .ok (.aload_n 0, 1) := by decide +kernel
theorem dX3_reasonAgainst_11 : decode cX3_reasonAgainst 11 = .ok (.iload_n 1, 1) := by decide +kernel
theorem dX3_reasonAgainst_12 : decode cX3_reasonAgainst 12 = .ok (.iload_n 2, 1) := by decide +kernel
theorem dX3_reasonAgainst_13 : decode cX3_reasonAgainst 13 = .ok (.invokevirtual 102, 3) := by decide +kernel
theorem dX3_reasonAgainst_16 : decode cX3_reasonAgainst 16 = .ok (.ifCond .eq 5, 3) := by decide +kernel
theorem dX3_reasonAgainst_19 : decode cX3_reasonAgainst 19 = .ok (.iconst 0, 1) := by decide +kernel
theorem dX3_reasonAgainst_20 : decode cX3_reasonAgainst 20 = .ok (.ireturn, 1) := by decide +kernel
theorem dX3_reasonAgainst_21 : decode cX3_reasonAgainst 21 = .ok (.aload_n 0, 1) := by decide +kernel
theorem dX3_reasonAgainst_22 : decode cX3_reasonAgainst 22 = .ok (.iload_n 2, 1) := by decide +kernel
theorem dX3_reasonAgainst_23 : decode cX3_reasonAgainst 23 = .ok (.invokevirtual 92, 3) := by decide +kernel
theorem dX3_reasonAgainst_26 : decode cX3_reasonAgainst 26 = .ok (.istore 4, 2) := by decide +kernel
theorem dX3_reasonAgainst_28 : decode cX3_reasonAgainst 28 = .ok (.aload_n 0, 1) := by decide +kernel
theorem dX3_reasonAgainst_29 : decode cX3_reasonAgainst 29 = .ok (.iload_n 2, 1) := by decide +kernel
theorem dX3_reasonAgainst_30 : decode cX3_reasonAgainst 30 = .ok (.invokevirtual 82, 3) := by decide +kernel
theorem dX3_reasonAgainst_33 : decode cX3_reasonAgainst 33 = .ok (.ifCond .eq 15, 3) := by decide +kernel
theorem dX3_reasonAgainst_36 : decode cX3_reasonAgainst 36 = .ok (.iload 4, 2) := by decide +kernel
theorem dX3_reasonAgainst_38 : decode cX3_reasonAgainst 38 = .ok (.iconst 1, 1) := by decide +kernel
theorem dX3_reasonAgainst_39 : decode cX3_reasonAgainst 39 = .ok (.if_icmp .lt 7, 3) := by decide +kernel
theorem dX3_reasonAgainst_42 : decode cX3_reasonAgainst 42 = .ok (.iconst 3, 1) := by decide +kernel
theorem dX3_reasonAgainst_43 : decode cX3_reasonAgainst 43 = .ok (.goto 4, 3) := by decide +kernel
theorem dX3_reasonAgainst_46 : decode cX3_reasonAgainst 46 = .ok (.iconst 0, 1) := by decide +kernel
theorem dX3_reasonAgainst_47 : decode cX3_reasonAgainst 47 = .ok (.ireturn, 1) := by decide +kernel
theorem dX3_reasonAgainst_48 : decode cX3_reasonAgainst 48 = .ok (.iload 4, 2) := by decide +kernel
theorem dX3_reasonAgainst_50 : decode cX3_reasonAgainst 50 = .ok (.iload_n 3, 1) := by decide +kernel
theorem dX3_reasonAgainst_51 : decode cX3_reasonAgainst 51 = .ok (.invokestatic 116, 3) := by decide +kernel
theorem dX3_reasonAgainst_54 : decode cX3_reasonAgainst 54 = .ok (.if_icmp .le 7, 3) := by decide +kernel
theorem dX3_reasonAgainst_57 : decode cX3_reasonAgainst 57 = .ok (.iconst 2, 1) := by decide +kernel
theorem dX3_reasonAgainst_58 : decode cX3_reasonAgainst 58 = .ok (.goto 4, 3) := by decide +kernel
theorem dX3_reasonAgainst_61 : decode cX3_reasonAgainst 61 = .ok (.iconst 0, 1) := by decide +kernel
theorem dX3_reasonAgainst_62 : decode cX3_reasonAgainst 62 = .ok (.ireturn, 1) := by decide +kernel
theorem dX3_depthKeptOut_0 : decode cX3_depthKeptOut 0 = .ok (.iconst 1, 1) := by decide +kernel
theorem dX3_depthKeptOut_1 : decode cX3_depthKeptOut 1 = .ok (.iconst 2, 1) := by decide +kernel
theorem dX3_depthKeptOut_2 : decode cX3_depthKeptOut 2 = .ok (.iload_n 0, 1) := by decide +kernel
theorem dX3_depthKeptOut_3 : decode cX3_depthKeptOut 3 = .ok (.imul, 1) := by decide +kernel
theorem dX3_depthKeptOut_4 : decode cX3_depthKeptOut 4 = .ok (.iadd, 1) := by decide +kernel
theorem dX3_depthKeptOut_5 : decode cX3_depthKeptOut 5 = .ok (.ireturn, 1) := by decide +kernel
set_option maxRecDepth 20000 in
theorem ggX3_mayCross_X3_reasonAgainst : GoodIn wsX3_mayCross wsX3_reasonAgainst := goodIn_r _ [6, 7, 8, 9, 5, 10, 11, 12, 13, 14, 15, 16, 17, 18, 19, 20, 21, 22, 23, 24, 25, 26, 27, 28, 29, 30, 31, 32, 33, 34, 35, 36, 37, 38, 39, 40, 41, 42, 43, 44, 45, 46, 47, 48, 49] (by decide +kernel) (by decide +kernel)
set_option maxRecDepth 20000 in
theorem gX3_mayCross_X3_reasonAgainst : GoodIn wsX3_mayCross (wsV RX3 119 RX3 yX3_reasonAgainst wsX3_reasonAgainst) := goodIn_app (goodIn_of _ (by decide +kernel)) ggX3_mayCross_X3_reasonAgainst
theorem dX3_mayCross_0 : decode cX3_mayCross 0 = .ok (.aload_n 0, 1) := by decide +kernel
theorem dX3_mayCross_1 : decode cX3_mayCross 1 = .ok (.iload_n 1, 1) := by decide +kernel
theorem dX3_mayCross_2 : decode cX3_mayCross 2 = .ok (.iload_n 2, 1) := by decide +kernel
theorem dX3_mayCross_3 : decode cX3_mayCross 3 = .ok (.aload_n 0, 1) := by decide +kernel
theorem dX3_mayCross_4 : decode cX3_mayCross 4 = .ok (.getfield 24, 3) := by decide +kernel
theorem dX3_mayCross_7 : decode cX3_mayCross 7 = .ok (.iload_n 1, 1) := by decide +kernel
theorem dX3_mayCross_8 : decode cX3_mayCross 8 = .ok (.iaload, 1) := by decide +kernel
theorem dX3_mayCross_9 : decode cX3_mayCross 9 = .ok (.invokevirtual 119, 3) := by decide +kernel
theorem dX3_mayCross_12 : decode cX3_mayCross 12 = .ok (.ifCond .ne 7, 3) := by decide +kernel
theorem dX3_mayCross_15 : decode cX3_mayCross 15 = .ok (.iconst 1, 1) := by decide +kernel
theorem dX3_mayCross_16 : decode cX3_mayCross 16 = .ok (.goto 4, 3) := by decide +kernel
theorem dX3_mayCross_19 : decode cX3_mayCross 19 = .ok (.iconst 0, 1) := by decide +kernel
theorem dX3_mayCross_20 : decode cX3_mayCross 20 = .ok (.ireturn, 1) := by decide +kernel
set_option maxRecDepth 20000 in
theorem ggX3_allowedFor_X3_mayCross : GoodIn wsX3_allowedFor wsX3_mayCross := goodIn_r _ [5, 6, 7, 8, 9, 4, 10, 11, 12, 13, 14, 15, 16, 17, 18, 19, 20, 21, 22, 23, 24, 25, 26, 27, 28, 29, 30, 31, 32, 33, 34, 35, 36, 37, 38, 39, 40, 41, 42, 43, 44, 45, 46, 47, 48, 49, 50, 51, 52, 53] (by decide +kernel) (by decide +kernel)
set_option maxRecDepth 20000 in
theorem gX3_allowedFor_X3_mayCross : GoodIn wsX3_allowedFor (wsV RX3 123 RX3 yX3_mayCross wsX3_mayCross) := goodIn_app (goodIn_of _ (by decide +kernel)) ggX3_allowedFor_X3_mayCross
theorem dX3_allowedFor_0 : decode cX3_allowedFor 0 = .ok (.iconst 0, 1) := by decide +kernel
theorem dX3_allowedFor_1 : decode cX3_allowedFor 1 = .ok (.istore_n 2, 1) := by decide +kernel
theorem dX3_allowedFor_2 : decode cX3_allowedFor 2 = .ok (.iconst 0, 1) := by decide +kernel
theorem dX3_allowedFor_3 : decode cX3_allowedFor 3 = .ok (.istore_n 3, 1) := by decide +kernel
theorem dX3_allowedFor_4 : decode cX3_allowedFor 4 = .ok (.iload_n 3, 1) := by decide +kernel
theorem dX3_allowedFor_5 : decode cX3_allowedFor 5 = .ok (.bipush 12, 2) := by decide +kernel
theorem dX3_allowedFor_7 : decode cX3_allowedFor 7 = .ok (.if_icmp .ge 24, 3) := by decide +kernel
theorem dX3_allowedFor_10 : decode cX3_allowedFor 10 = .ok (.aload_n 0, 1) := by decide +kernel
theorem dX3_allowedFor_11 : decode cX3_allowedFor 11 = .ok (.iload_n 1, 1) := by decide +kernel
theorem dX3_allowedFor_12 : decode cX3_allowedFor 12 = .ok (.iload_n 3, 1) := by decide +kernel
theorem dX3_allowedFor_13 : decode cX3_allowedFor 13 = .ok (.invokevirtual 123, 3) := by decide +kernel
theorem dX3_allowedFor_16 : decode cX3_allowedFor 16 = .ok (.ifCond .eq 9, 3) := by decide +kernel
theorem dX3_allowedFor_19 : decode cX3_allowedFor 19 = .ok (.iload_n 2, 1) := by decide +kernel
theorem dX3_allowedFor_20 : decode cX3_allowedFor 20 = .ok (.iconst 1, 1) := by decide +kernel
theorem dX3_allowedFor_21 : decode cX3_allowedFor 21 = .ok (.iload_n 3, 1) := by decide +kernel
theorem dX3_allowedFor_22 : decode cX3_allowedFor 22 = .ok (.ishl, 1) := by decide +kernel
theorem dX3_allowedFor_23 : decode cX3_allowedFor 23 = .ok (.ior, 1) := by decide +kernel
theorem dX3_allowedFor_24 : decode cX3_allowedFor 24 = .ok (.istore_n 2, 1) := by decide +kernel
theorem dX3_allowedFor_25 : decode cX3_allowedFor 25 = .ok (.iinc 3 1, 3) := by decide +kernel
theorem dX3_allowedFor_28 : decode cX3_allowedFor 28 = .ok (.goto (-24), 3) := by decide +kernel
theorem dX3_allowedFor_31 : decode cX3_allowedFor 31 = .ok (.iload_n 2, 1) := by decide +kernel
theorem dX3_allowedFor_32 : decode cX3_allowedFor 32 = .ok (.ireturn, 1) := by decide +kernel
set_option maxRecDepth 20000 in
theorem ggX3_allowsAllWith_X3_reasonAgainst : GoodIn wsX3_allowsAllWith wsX3_reasonAgainst := goodIn_r _ [5, 6, 7, 8, 4, 9, 10, 11, 12, 13, 14, 15, 16, 17, 18, 19, 20, 21, 22, 23, 24, 25, 26, 27, 28, 29, 30, 31, 32, 33, 34, 35, 36, 37, 38, 39, 40, 41, 42, 43, 44, 45, 46, 47, 48] (by decide +kernel) (by decide +kernel)
set_option maxRecDepth 20000 in
theorem gX3_allowsAllWith_X3_reasonAgainst : GoodIn wsX3_allowsAllWith (wsV RX3 119 RX3 yX3_reasonAgainst wsX3_reasonAgainst) := goodIn_app (goodIn_of _ (by decide +kernel)) ggX3_allowsAllWith_X3_reasonAgainst
theorem dX3_allowsAllWith_0 : decode cX3_allowsAllWith 0 = .ok (.iconst 0, 1) := by decide +kernel
theorem dX3_allowsAllWith_1 : decode cX3_allowsAllWith 1 = .ok (.istore_n 3, 1) := by decide +kernel
theorem dX3_allowsAllWith_2 : decode cX3_allowsAllWith 2 = .ok (.iload_n 3, 1) := by decide +kernel
theorem dX3_allowsAllWith_3 : decode cX3_allowsAllWith 3 = .ok (.bipush 12, 2) := by decide +kernel
theorem dX3_allowsAllWith_5 : decode cX3_allowsAllWith 5 = .ok (.if_icmp .ge 21, 3) := by decide +kernel
theorem dX3_allowsAllWith_8 : decode cX3_allowsAllWith 8 = .ok (.aload_n 0, 1) := by decide +kernel
theorem dX3_allowsAllWith_9 : decode cX3_allowsAllWith 9 = .ok (.iload_n 1, 1) := by decide +kernel
theorem dX3_allowsAllWith_10 : decode cX3_allowsAllWith 10 = .ok (.iload_n 3, 1) := by decide +kernel
theorem dX3_allowsAllWith_11 : decode cX3_allowsAllWith 11 = .ok (.iload_n 2, 1) := by decide +kernel
theorem dX3_allowsAllWith_12 : decode cX3_allowsAllWith 12 = .ok (.invokevirtual 119, 3) := by decide +kernel
theorem dX3_allowsAllWith_15 : decode cX3_allowsAllWith 15 = .ok (.ifCond .eq 5, 3) := by decide +kernel
theorem dX3_allowsAllWith_18 : decode cX3_allowsAllWith 18 = .ok (.iconst 0, 1) := by decide +kernel
theorem dX3_allowsAllWith_19 : decode cX3_allowsAllWith 19 = .ok (.ireturn, 1) := by decide +kernel
theorem dX3_allowsAllWith_20 : decode cX3_allowsAllWith 20 = .ok (.iinc 3 1, 3) := by decide +kernel
theorem dX3_allowsAllWith_23 : decode cX3_allowsAllWith 23 = .ok (.goto (-21), 3) := by decide +kernel
theorem dX3_allowsAllWith_26 : decode cX3_allowsAllWith 26 = .ok (.iconst 1, 1) := by decide +kernel
theorem dX3_allowsAllWith_27 : decode cX3_allowsAllWith 27 = .ok (.ireturn, 1) := by decide +kernel
set_option maxRecDepth 20000 in
theorem ggX3_dutyAt_X3_isFrozen : GoodIn wsX3_dutyAt wsX3_isFrozen := goodIn_r _ [6, 7, 8, 9, 10, 16, 17, 18, 19, 20, 21, 22, 23, 24, 25, 26, 27, 28, 29, 30] (by decide +kernel) (by decide +kernel)
set_option maxRecDepth 20000 in
theorem gX3_dutyAt_X3_isFrozen : GoodIn wsX3_dutyAt (wsV RX3 82 RX3 yX3_isFrozen wsX3_isFrozen) := goodIn_app (goodIn_of _ (by decide +kernel)) ggX3_dutyAt_X3_isFrozen
set_option maxRecDepth 20000 in
theorem ggX3_dutyAt_X3_depth : GoodIn wsX3_dutyAt wsX3_depth := goodIn_r _ [14, 15, 16, 17, 18, 19, 20, 21, 22, 23, 24, 25, 26, 27, 28, 29, 30] (by decide +kernel) (by decide +kernel)
set_option maxRecDepth 20000 in
theorem gX3_dutyAt_X3_depth : GoodIn wsX3_dutyAt (wsV RX3 92 RX3 yX3_depth wsX3_depth) := goodIn_app (goodIn_of _ (by decide +kernel)) ggX3_dutyAt_X3_depth
theorem dX3_dutyAt_0 : decode cX3_dutyAt 0 = .ok (.aload_n 0, 1) := by decide +kernel
theorem dX3_dutyAt_1 : decode cX3_dutyAt 1 = .ok (.iload_n 1, 1) := by decide +kernel
theorem dX3_dutyAt_2 : decode cX3_dutyAt 2 = .ok (.invokevirtual 82, 3) := by decide +kernel
theorem dX3_dutyAt_5 : decode cX3_dutyAt 5 = .ok (.ifCond .eq 7, 3) := by decide +kernel
theorem dX3_dutyAt_8 : decode cX3_dutyAt 8 = .ok (.iconst 0, 1) := by decide +kernel
theorem dX3_dutyAt_9 : decode cX3_dutyAt 9 = .ok (.goto 15, 3) := by decide +kernel
theorem dX3_dutyAt_12 : decode cX3_dutyAt 12 = .ok (.aload_n 0, 1) := by decide +kernel
theorem dX3_dutyAt_13 : decode cX3_dutyAt 13 = .ok (.getfield 9, 3) := by decide +kernel
theorem dX3_dutyAt_16 : decode cX3_dutyAt 16 = .ok (.iconst 0, 1) := by decide +kernel
theorem dX3_dutyAt_17 : decode cX3_dutyAt 17 = .ok (.iaload, 1) := by decide +kernel
theorem dX3_dutyAt_18 : decode cX3_dutyAt 18 = .ok (.aload_n 0, 1) := by decide +kernel
theorem dX3_dutyAt_19 : decode cX3_dutyAt 19 = .ok (.iload_n 1, 1) := by decide +kernel
theorem dX3_dutyAt_20 : decode cX3_dutyAt 20 = .ok (.invokevirtual 92, 3) := by decide +kernel
theorem dX3_dutyAt_23 : decode cX3_dutyAt 23 = .ok (.imul, 1) := by decide +kernel
theorem dX3_dutyAt_24 : decode cX3_dutyAt 24 = .ok (.ireturn, 1) := by decide +kernel
set_option maxRecDepth 20000 in
theorem ggX3_cross_X3_dutyAt : GoodIn wsX3_cross wsX3_dutyAt := goodIn_r _ [8, 9, 10, 11, 12, 7, 13, 14, 15, 16, 17, 18, 19, 20, 21, 22, 23, 24, 25, 26, 27, 28, 29, 30, 31, 32, 33, 34, 35, 36, 37] (by decide +kernel) (by decide +kernel)
set_option maxRecDepth 20000 in
theorem gX3_cross_X3_dutyAt : GoodIn wsX3_cross (wsV RX3 126 RX3 yX3_dutyAt wsX3_dutyAt) := goodIn_app (goodIn_of _ (by decide +kernel)) ggX3_cross_X3_dutyAt
theorem dX3_cross_0 : decode cX3_cross 0 = .ok (.aload_n 0, 1) := by decide +kernel
theorem dX3_cross_1 : decode cX3_cross 1 = .ok (.getfield 27, 3) := by decide +kernel
theorem dX3_cross_4 : decode cX3_cross 4 = .ok (.iload_n 1, 1) := by decide +kernel
theorem dX3_cross_5 : decode cX3_cross 5 = .ok (.dup2, 1) := by decide +kernel
theorem dX3_cross_6 : decode cX3_cross 6 = .ok (.iaload, 1) := by decide +kernel
theorem dX3_cross_7 : decode cX3_cross 7 = .ok (.aload_n 0, 1) := by decide +kernel
theorem dX3_cross_8 : decode cX3_cross 8 = .ok (.iload_n 2, 1) := by decide +kernel
theorem dX3_cross_9 : decode cX3_cross 9 = .ok (.invokevirtual 126, 3) := by decide +kernel
theorem dX3_cross_12 : decode cX3_cross 12 = .ok (.iadd, 1) := by decide +kernel
theorem dX3_cross_13 : decode cX3_cross 13 = .ok (.iastore, 1) := by decide +kernel
theorem dX3_cross_14 : decode cX3_cross 14 = .ok (.aload_n 0, 1) := by decide +kernel
theorem dX3_cross_15 : decode cX3_cross 15 = .ok (.getfield 33, 3) := by decide +kernel
theorem dX3_cross_18 : decode cX3_cross 18 = .ok (.iload_n 1, 1) := by decide +kernel
theorem dX3_cross_19 : decode cX3_cross 19 = .ok (.dup2, 1) := by decide +kernel
theorem dX3_cross_20 : decode cX3_cross 20 = .ok (.iaload, 1) := by decide +kernel
theorem dX3_cross_21 : decode cX3_cross 21 = .ok (.iconst 1, 1) := by decide +kernel
theorem dX3_cross_22 : decode cX3_cross 22 = .ok (.iadd, 1) := by decide +kernel
theorem dX3_cross_23 : decode cX3_cross 23 = .ok (.iastore, 1) := by decide +kernel
theorem dX3_cross_24 : decode cX3_cross 24 = .ok (.aload_n 0, 1) := by decide +kernel
theorem dX3_cross_25 : decode cX3_cross 25 = .ok (.getfield 21, 3) := by decide +kernel
theorem dX3_cross_28 : decode cX3_cross 28 = .ok (.iload_n 2, 1) := by decide +kernel
theorem dX3_cross_29 : decode cX3_cross 29 = .ok (.dup2, 1) := by decide +kernel
theorem dX3_cross_30 : decode cX3_cross 30 = .ok (.iaload, 1) := by decide +kernel
theorem dX3_cross_31 : decode cX3_cross 31 = .ok (.iconst 1, 1) := by decide +kernel
theorem dX3_cross_32 : decode cX3_cross 32 = .ok (.iadd, 1) := by decide +kernel
theorem dX3_cross_33 : decode cX3_cross 33 = .ok (.iastore, 1) := by decide +kernel
theorem dX3_cross_34 : decode cX3_cross 34 = .ok (.return_, 1) := by decide +kernel
set_option maxRecDepth 20000 in
theorem ggX3_stepsUntilBlocked_X4_placeAfter : GoodIn wsX3_stepsUntilBlocked wsX4_placeAfter := goodIn_r _ [7] (by decide +kernel) (by decide +kernel)
set_option maxRecDepth 20000 in
theorem gX3_stepsUntilBlocked_X4_placeAfter_n132 : GoodIn wsX3_stepsUntilBlocked (wsX4_placeAfter) := ggX3_stepsUntilBlocked_X4_placeAfter
set_option maxRecDepth 20000 in
theorem ggX3_stepsUntilBlocked_X3_mayCross : GoodIn wsX3_stepsUntilBlocked wsX3_mayCross := goodIn_r _ [12, 13, 14, 15, 16, 11, 17, 18, 19, 20, 21, 22, 23, 6, 24, 25, 26, 27, 28, 29, 30, 31, 32, 33, 34, 35, 36, 37, 38, 39, 40, 41, 42, 43, 44, 45, 46, 47, 48, 49, 50, 51, 52, 53, 54, 55, 56, 57, 58, 59] (by decide +kernel) (by decide +kernel)
set_option maxRecDepth 20000 in
theorem gX3_stepsUntilBlocked_X3_mayCross : GoodIn wsX3_stepsUntilBlocked (wsV RX3 123 RX3 yX3_mayCross wsX3_mayCross) := goodIn_app (goodIn_of _ (by decide +kernel)) ggX3_stepsUntilBlocked_X3_mayCross
theorem dX3_stepsUntilBlocked_0 : decode cX3_stepsUntilBlocked 0 = .ok (.iload_n 3, 1) := by decide +kernel
theorem dX3_stepsUntilBlocked_1 : decode cX3_stepsUntilBlocked 1 = .ok (.iload_n 2, 1) := by decide +kernel
theorem dX3_stepsUntilBlocked_2 : decode cX3_stepsUntilBlocked 2 = .ok (.isub, 1) := by decide +kernel
theorem dX3_stepsUntilBlocked_3 : decode cX3_stepsUntilBlocked 3 = .ok (.invokestatic 129, 3) := by decide +kernel
theorem dX3_stepsUntilBlocked_6 : decode cX3_stepsUntilBlocked 6 = .ok (.iconst 1, 1) := by decide +kernel
theorem dX3_stepsUntilBlocked_7 : decode cX3_stepsUntilBlocked 7 = .ok (.iadd, 1) := by decide +kernel
theorem dX3_stepsUntilBlocked_8 : decode cX3_stepsUntilBlocked 8 = .ok (.istore 4, 2) := by decide +kernel
theorem dX3_stepsUntilBlocked_10 : decode cX3_stepsUntilBlocked 10 = .ok (.iconst 0, 1) := by decide +kernel
theorem dX3_stepsUntilBlocked_11 : decode cX3_stepsUntilBlocked 11 = .ok (.istore 5, 2) := by decide +kernel
theorem dX3_stepsUntilBlocked_13 : decode cX3_stepsUntilBlocked 13 = .ok (.iload 5, 2) := by decide +kernel
theorem dX3_stepsUntilBlocked_15 : decode cX3_stepsUntilBlocked 15 = .ok (.iload 4, 2) := by decide +kernel
theorem dX3_stepsUntilBlocked_17 : decode cX3_stepsUntilBlocked 17 = .ok (.if_icmp .ge 27, 3) := by decide +kernel
theorem dX3_stepsUntilBlocked_20 : decode cX3_stepsUntilBlocked 20 = .ok (.aload_n 0, 1) := by decide +kernel
theorem dX3_stepsUntilBlocked_21 : decode cX3_stepsUntilBlocked 21 = .ok (.iload_n 1, 1) := by decide +kernel
theorem dX3_stepsUntilBlocked_22 : decode cX3_stepsUntilBlocked 22 = .ok (.iload 5, 2) := by decide +kernel
theorem dX3_stepsUntilBlocked_24 : decode cX3_stepsUntilBlocked 24 = .ok (.iload_n 2, 1) := by decide +kernel
theorem dX3_stepsUntilBlocked_25 : decode cX3_stepsUntilBlocked 25 = .ok (.iload_n 3, 1) := by decide +kernel
theorem dX3_stepsUntilBlocked_26 : decode cX3_stepsUntilBlocked 26 = .ok (.invokestatic 132, 3) := by decide +kernel
theorem dX3_stepsUntilBlocked_29 : decode cX3_stepsUntilBlocked 29 = .ok (.invokevirtual 123, 3) := by decide +kernel
theorem dX3_stepsUntilBlocked_32 : decode cX3_stepsUntilBlocked 32 = .ok (.ifCond .ne 6, 3) := by decide +kernel
theorem dX3_stepsUntilBlocked_35 : decode cX3_stepsUntilBlocked 35 = .ok (.iload 5, 2) := by decide +kernel
theorem dX3_stepsUntilBlocked_37 : decode cX3_stepsUntilBlocked 37 = .ok (.ireturn, 1) := by decide +kernel
theorem dX3_stepsUntilBlocked_38 : decode cX3_stepsUntilBlocked 38 = .ok (.iinc 5 1, 3) := by decide +kernel
theorem dX3_stepsUntilBlocked_41 : decode cX3_stepsUntilBlocked 41 = .ok (.goto (-28), 3) := by decide +kernel
theorem dX3_stepsUntilBlocked_44 : decode cX3_stepsUntilBlocked 44 = .ok (.iload 4, 2) := by decide +kernel
theorem dX3_stepsUntilBlocked_46 : decode cX3_stepsUntilBlocked 46 = .ok (.ireturn, 1) := by decide +kernel
set_option maxRecDepth 20000 in
theorem ggX3_costBySteps_X4_placeAfter : GoodIn wsX3_costBySteps wsX4_placeAfter := goodIn_r _ [7] (by decide +kernel) (by decide +kernel)
set_option maxRecDepth 20000 in
theorem gX3_costBySteps_X4_placeAfter_n132 : GoodIn wsX3_costBySteps (wsX4_placeAfter) := ggX3_costBySteps_X4_placeAfter
set_option maxRecDepth 20000 in
theorem ggX3_costBySteps_X3_mayCross : GoodIn wsX3_costBySteps wsX3_mayCross := goodIn_r _ [12, 13, 14, 15, 16, 11, 17, 18, 19, 20, 21, 22, 23, 6, 24, 25, 26, 27, 28, 29, 30, 31, 32, 33, 34, 35, 36, 37, 38, 39, 40, 41, 42, 43, 44, 50, 51, 52, 53, 54, 55, 56, 57, 58, 59, 60, 61, 62, 63, 64] (by decide +kernel) (by decide +kernel)
set_option maxRecDepth 20000 in
theorem gX3_costBySteps_X3_mayCross : GoodIn wsX3_costBySteps (wsV RX3 123 RX3 yX3_mayCross wsX3_mayCross) := goodIn_app (goodIn_of _ (by decide +kernel)) ggX3_costBySteps_X3_mayCross
set_option maxRecDepth 20000 in
theorem ggX3_costBySteps_X3_dutyAt : GoodIn wsX3_costBySteps wsX3_dutyAt := goodIn_r _ [48, 49, 37, 38, 39, 11, 40, 41, 23, 6, 24, 32, 33, 34, 35, 36, 50, 51, 52, 53, 54, 55, 56, 57, 58, 59, 60, 61, 62, 63, 64] (by decide +kernel) (by decide +kernel)
set_option maxRecDepth 20000 in
theorem gX3_costBySteps_X3_dutyAt : GoodIn wsX3_costBySteps (wsV RX3 126 RX3 yX3_dutyAt wsX3_dutyAt) := goodIn_app (goodIn_of _ (by decide +kernel)) ggX3_costBySteps_X3_dutyAt
theorem dX3_costBySteps_0 : decode cX3_costBySteps 0 = .ok (.iload_n 3, 1) := by decide +kernel
theorem dX3_costBySteps_1 : decode cX3_costBySteps 1 = .ok (.iload_n 2, 1) := by decide +kernel
theorem dX3_costBySteps_2 : decode cX3_costBySteps 2 = .ok (.isub, 1) := by decide +kernel
theorem dX3_costBySteps_3 : decode cX3_costBySteps 3 = .ok (.invokestatic 129, 3) := by decide +kernel
theorem dX3_costBySteps_6 : decode cX3_costBySteps 6 = .ok (.iconst 1, 1) := by decide +kernel
theorem dX3_costBySteps_7 : decode cX3_costBySteps 7 = .ok (.iadd, 1) := by decide +kernel
theorem dX3_costBySteps_8 : decode cX3_costBySteps 8 = .ok (.istore 4, 2) := by decide +kernel
theorem dX3_costBySteps_10 : decode cX3_costBySteps 10 = .ok (.iconst 0, 1) := by decide +kernel
theorem dX3_costBySteps_11 : decode cX3_costBySteps 11 = .ok (.istore 5, 2) := by decide +kernel
theorem dX3_costBySteps_13 : decode cX3_costBySteps 13 = .ok (.iconst 0, 1) := by decide +kernel
theorem dX3_costBySteps_14 : decode cX3_costBySteps 14 = .ok (.istore 6, 2) := by decide +kernel
theorem dX3_costBySteps_16 : decode cX3_costBySteps 16 = .ok (.iload 6, 2) := by decide +kernel
theorem dX3_costBySteps_18 : decode cX3_costBySteps 18 = .ok (.iload 4, 2) := by decide +kernel
theorem dX3_costBySteps_20 : decode cX3_costBySteps 20 = .ok (.if_icmp .ge 42, 3) := by decide +kernel
theorem dX3_costBySteps_23 : decode cX3_costBySteps 23 = .ok (.iload 6, 2) := by decide +kernel
theorem dX3_costBySteps_25 : decode cX3_costBySteps 25 = .ok (.iload_n 2, 1) := by decide +kernel
theorem dX3_costBySteps_26 : decode cX3_costBySteps 26 = .ok (.iload_n 3, 1) := by decide +kernel
theorem dX3_costBySteps_27 : decode cX3_costBySteps 27 = .ok (.invokestatic 132, 3) := by decide +kernel
theorem dX3_costBySteps_30 : decode cX3_costBySteps 30 = .ok (.istore 7, 2) := by decide +kernel
theorem dX3_costBySteps_32 : decode cX3_costBySteps 32 = .ok (.aload_n 0, 1) := by decide +kernel
theorem dX3_costBySteps_33 : decode cX3_costBySteps 33 = .ok (.iload_n 1, 1) := by decide +kernel
theorem dX3_costBySteps_34 : decode cX3_costBySteps 34 = .ok (.iload 7, 2) := by decide +kernel
theorem dX3_costBySteps_36 : decode cX3_costBySteps 36 = .ok (.invokevirtual 123, 3) := by decide +kernel
theorem dX3_costBySteps_39 : decode cX3_costBySteps 39 = .ok (.ifCond .ne 6, 3) := by decide +kernel
theorem dX3_costBySteps_42 : decode cX3_costBySteps 42 = .ok (.iload 5, 2) := by decide +kernel
theorem dX3_costBySteps_44 : decode cX3_costBySteps 44 = .ok (.ireturn, 1) := by decide +kernel
theorem dX3_costBySteps_45 : decode cX3_costBySteps 45 = .ok (.iload 5, 2) := by decide +kernel
theorem dX3_costBySteps_47 : decode cX3_costBySteps 47 = .ok (.aload_n 0, 1) := by decide +kernel
theorem dX3_costBySteps_48 : decode cX3_costBySteps 48 = .ok (.iload 7, 2) := by decide +kernel
theorem dX3_costBySteps_50 : decode cX3_costBySteps 50 = .ok (.invokevirtual 126, 3) := by decide +kernel
theorem dX3_costBySteps_53 : decode cX3_costBySteps 53 = .ok (.iadd, 1) := by decide +kernel
theorem dX3_costBySteps_54 : decode cX3_costBySteps 54 = .ok (.istore 5, 2) := by decide +kernel
theorem dX3_costBySteps_56 : decode cX3_costBySteps 56 = .ok (.iinc 6 1, 3) := by decide +kernel
theorem dX3_costBySteps_59 : decode cX3_costBySteps 59 = .ok (.goto (-43), 3) := by decide +kernel
theorem dX3_costBySteps_62 : decode cX3_costBySteps 62 = .ok (.iload 5, 2) := by decide +kernel
theorem dX3_costBySteps_64 : decode cX3_costBySteps 64 = .ok (.ireturn, 1) := by decide +kernel
set_option maxRecDepth 20000 in
theorem ggX3_costByBlock_X3_stepsUntilBlocked : GoodIn wsX3_costByBlock wsX3_stepsUntilBlocked := goodIn_r _ [5, 6, 7, 8, 9, 10, 11, 12, 13, 14, 15, 4, 16, 17, 18, 19, 20, 21, 22, 23, 24, 25, 26, 27, 28, 29, 30, 31, 32, 33, 34, 35, 36, 37, 38, 39, 40, 41, 42, 43, 44, 45, 46, 47, 48, 54, 55, 56, 57, 58, 59, 60, 61, 62, 63, 64, 65, 66, 67, 68] (by decide +kernel) (by decide +kernel)
set_option maxRecDepth 20000 in
theorem gX3_costByBlock_X3_stepsUntilBlocked : GoodIn wsX3_costByBlock (wsV RX3 135 RX3 yX3_stepsUntilBlocked wsX3_stepsUntilBlocked) := goodIn_app (goodIn_of _ (by decide +kernel)) ggX3_costByBlock_X3_stepsUntilBlocked
set_option maxRecDepth 20000 in
theorem ggX3_costByBlock_X4_placeAfter : GoodIn wsX3_costByBlock wsX4_placeAfter := goodIn_r _ [12] (by decide +kernel) (by decide +kernel)
set_option maxRecDepth 20000 in
theorem gX3_costByBlock_X4_placeAfter_n132 : GoodIn wsX3_costByBlock (wsX4_placeAfter) := ggX3_costByBlock_X4_placeAfter
set_option maxRecDepth 20000 in
theorem ggX3_costByBlock_X3_dutyAt : GoodIn wsX3_costByBlock wsX3_dutyAt := goodIn_r _ [52, 53, 41, 42, 43, 4, 44, 45, 27, 11, 28, 36, 37, 38, 39, 40, 54, 55, 56, 57, 58, 59, 60, 61, 62, 63, 64, 65, 66, 67, 68] (by decide +kernel) (by decide +kernel)
set_option maxRecDepth 20000 in
theorem gX3_costByBlock_X3_dutyAt : GoodIn wsX3_costByBlock (wsV RX3 126 RX3 yX3_dutyAt wsX3_dutyAt) := goodIn_app (goodIn_of _ (by decide +kernel)) ggX3_costByBlock_X3_dutyAt
theorem dX3_costByBlock_0 : decode cX3_costByBlock 0 = .ok (.aload_n 0, 1) := by decide +kernel
theorem dX3_costByBlock_1 : decode cX3_costByBlock 1 = .ok (.iload_n 1, 1) := by decide +kernel
theorem dX3_costByBlock_2 : decode cX3_costByBlock 2 = .ok (.iload_n 2, 1) := by decide +kernel
theorem dX3_costByBlock_3 : decode cX3_costByBlock 3 = .ok (.iload_n 3, 1) := by decide +kernel
theorem dX3_costByBlock_4 : decode cX3_costByBlock 4 = .ok (.invokevirtual 135, 3) := by decide +kernel
theorem dX3_costByBlock_7 : decode cX3_costByBlock 7 = .ok (.istore 4, 2) := by decide +kernel
theorem dX3_costByBlock_9 : decode cX3_costByBlock 9 = .ok (.iconst 0, 1) := by decide +kernel
theorem dX3_costByBlock_10 : decode cX3_costByBlock 10 = .ok (.istore 5, 2) := by decide +kernel
theorem dX3_costByBlock_12 : decode cX3_costByBlock 12 = .ok (.iconst 0, 1) := by decide +kernel
theorem dX3_costByBlock_13 : decode cX3_costByBlock 13 = .ok (.istore 6, 2) := by decide +kernel
theorem dX3_costByBlock_15 : decode cX3_costByBlock 15 = .ok (.iload 6, 2) := by decide +kernel
theorem dX3_costByBlock_17 : decode cX3_costByBlock 17 = .ok (.iload 4, 2) := by decide +kernel
theorem dX3_costByBlock_19 : decode cX3_costByBlock 19 = .ok (.if_icmp .ge 25, 3) := by decide +kernel
theorem dX3_costByBlock_22 : decode cX3_costByBlock 22 = .ok (.iload 5, 2) := by decide +kernel
theorem dX3_costByBlock_24 : decode cX3_costByBlock 24 = .ok (.aload_n 0, 1) := by decide +kernel
theorem dX3_costByBlock_25 : decode cX3_costByBlock 25 = .ok (.iload 6, 2) := by decide +kernel
theorem dX3_costByBlock_27 : decode cX3_costByBlock 27 = .ok (.iload_n 2, 1) := by decide +kernel
theorem dX3_costByBlock_28 : decode cX3_costByBlock 28 = .ok (.iload_n 3, 1) := by decide +kernel
theorem dX3_costByBlock_29 : decode cX3_costByBlock 29 = .ok (.invokestatic 132, 3) := by decide +kernel
theorem dX3_costByBlock_32 : decode cX3_costByBlock 32 = .ok (.invokevirtual 126, 3) := by decide +kernel
theorem dX3_costByBlock_35 : decode cX3_costByBlock 35 = .ok (.iadd, 1) := by decide +kernel
theorem dX3_costByBlock_36 : decode cX3_costByBlock 36 = .ok (.istore 5, 2) := by decide +kernel
theorem dX3_costByBlock_38 : decode cX3_costByBlock 38 = .ok (.iinc 6 1, 3) := by decide +kernel
theorem dX3_costByBlock_41 : decode cX3_costByBlock 41 = .ok (.goto (-26), 3) := by decide +kernel
theorem dX3_costByBlock_44 : decode cX3_costByBlock 44 = .ok (.iload 5, 2) := by decide +kernel
theorem dX3_costByBlock_46 : decode cX3_costByBlock 46 = .ok (.ireturn, 1) := by decide +kernel
