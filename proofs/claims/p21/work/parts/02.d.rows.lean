theorem dX1_requireRange_16 : decode cX1_requireRange 16 = .ok (.invokespecial 139, 3) := by decide +kernel
theorem dX1_requireRange_19 : decode cX1_requireRange 19 = .ok (.athrow, 1) := by decide +kernel
theorem dX1_requireRange_20 : decode cX1_requireRange 20 = .ok (.return_, 1) := by decide +kernel
theorem dX1_write_0 : decode cX1_write 0 = .ok (.aload_n 0, 1) := by decide +kernel
theorem dX1_write_1 : decode cX1_write 1 = .ok (.getfield 42, 3) := by decide +kernel
theorem dX1_write_4 : decode cX1_write 4 = .ok (.istore_n 3, 1) := by decide +kernel
theorem dX1_write_5 : decode cX1_write 5 = .ok (.iload_n 3, 1) := by decide +kernel
theorem dX1_write_6 : decode cX1_write 6 = .ok (.sipush 1000, 3) := by decide +kernel
theorem dX1_write_9 : decode cX1_write 9 = .ok (.if_icmp .ge 27, 3) := by decide +kernel
theorem dX1_write_12 : decode cX1_write 12 = .ok (.aload_n 0, 1) := by decide +kernel
theorem dX1_write_13 : decode cX1_write 13 = .ok (.getfield 29, 3) := by decide +kernel
theorem dX1_write_16 : decode cX1_write 16 = .ok (.iload_n 3, 1) := by decide +kernel
theorem dX1_write_17 : decode cX1_write 17 = .ok (.iload_n 2, 1) := by decide +kernel
theorem dX1_write_18 : decode cX1_write 18 = .ok (.iastore, 1) := by decide +kernel
theorem dX1_write_19 : decode cX1_write 19 = .ok (.aload_n 0, 1) := by decide +kernel
theorem dX1_write_20 : decode cX1_write 20 = .ok (.getfield 32, 3) := by decide +kernel
theorem dX1_write_23 : decode cX1_write 23 = .ok (.iload_n 1, 1) := by decide +kernel
theorem dX1_write_24 : decode cX1_write 24 = .ok (.iload_n 3, 1) := by decide +kernel
theorem dX1_write_25 : decode cX1_write 25 = .ok (.iastore, 1) := by decide +kernel
theorem dX1_write_26 : decode cX1_write 26 = .ok (.aload_n 0, 1) := by decide +kernel
theorem dX1_write_27 : decode cX1_write 27 = .ok (.dup, 1) := by decide +kernel
theorem dX1_write_28 : decode cX1_write 28 = .ok (.getfield 42, 3) := by decide +kernel
theorem dX1_write_31 : decode cX1_write 31 = .ok (.iconst 1, 1) := by decide +kernel
theorem dX1_write_32 : decode cX1_write 32 = .ok (.iadd, 1) := by decide +kernel
theorem dX1_write_33 : decode cX1_write 33 = .ok (.putfield 42, 3) := by decide +kernel
theorem dX1_write_36 : decode cX1_write 36 = .ok (.iload_n 3, 1) := by decide +kernel
theorem dX1_write_37 : decode cX1_write 37 = .ok (.ireturn, 1) := by decide +kernel
set_option maxRecDepth 20000 in
theorem ggX1_canBeOrdered_X1_isBusFit : GoodIn wsX1_canBeOrdered wsX1_isBusFit := goodIn_r _ [8, 9, 10, 11, 12, 13, 14, 15, 16, 7, 17, 18, 1, 19, 20, 21, 22, 23, 24, 25, 26, 27, 28, 29, 30, 31, 65, 66, 67, 68, 69, 70, 71, 72, 73, 74, 75, 76, 59, 60, 61, 62, 63, 64] (by decide +kernel) (by decide +kernel)
set_option maxRecDepth 20000 in
theorem gX1_canBeOrdered_X1_isBusFit : GoodIn wsX1_canBeOrdered (wsV RX1 143 RX1 yX1_isBusFit wsX1_isBusFit) := goodIn_app (goodIn_of _ (by decide +kernel)) ggX1_canBeOrdered_X1_isBusFit
set_option maxRecDepth 20000 in
theorem ggX1_canBeOrdered_X1_isDriverFit : GoodIn wsX1_canBeOrdered wsX1_isDriverFit := goodIn_r _ [35, 36, 12, 13, 37, 38, 39, 22, 40, 30, 41, 42, 43, 7, 44, 45, 46, 47, 48, 49, 50, 51, 52, 53, 54, 31, 55, 56, 57, 58, 65, 66, 67, 68, 69, 70, 71, 72, 73, 74, 75, 76, 59, 60, 61, 62, 63, 64] (by decide +kernel) (by decide +kernel)
set_option maxRecDepth 20000 in
theorem gX1_canBeOrdered_X1_isDriverFit : GoodIn wsX1_canBeOrdered (wsV RX1 147 RX1 yX1_isDriverFit wsX1_isDriverFit) := goodIn_app (goodIn_of _ (by decide +kernel)) ggX1_canBeOrdered_X1_isDriverFit
theorem dX1_canBeOrdered_0 : decode cX1_canBeOrdered 0 = .ok (.aload_n 1, 1) := by decide +kernel
theorem dX1_canBeOrdered_1 : decode cX1_canBeOrdered 1 = .ok (.getfield 114, 3) := by decide +kernel
theorem dX1_canBeOrdered_4 : decode cX1_canBeOrdered 4 = .ok (.ifCond .ne 36, 3) := by decide +kernel
theorem dX1_canBeOrdered_7 : decode cX1_canBeOrdered 7 = .ok (.aload_n 1, 1) := by decide +kernel
theorem dX1_canBeOrdered_8 : decode cX1_canBeOrdered 8 = .ok (.getfield 140, 3) := by decide +kernel
theorem dX1_canBeOrdered_11 : decode cX1_canBeOrdered 11 = .ok (.aload_n 0, 1) := by decide +kernel
theorem dX1_canBeOrdered_12 : decode cX1_canBeOrdered 12 = .ok (.getfield 35, 3) := by decide +kernel
theorem dX1_canBeOrdered_15 : decode cX1_canBeOrdered 15 = .ok (.if_icmp .le 25, 3) := by decide +kernel
theorem dX1_canBeOrdered_18 : decode cX1_canBeOrdered 18 = .ok (.aload_n 0, 1) := by decide +kernel
theorem dX1_canBeOrdered_19 : decode cX1_canBeOrdered 19 = .ok (.iload_n 2, 1) := by decide +kernel
theorem dX1_canBeOrdered_20 : decode cX1_canBeOrdered 20 = .ok (.aload_n 1, 1) := by decide +kernel
theorem dX1_canBeOrdered_21 : decode cX1_canBeOrdered 21 = .ok (.invokevirtual 143, 3) := by decide +kernel
theorem dX1_canBeOrdered_24 : decode cX1_canBeOrdered 24 = .ok (.ifCond .eq 16, 3) := by decide +kernel
theorem dX1_canBeOrdered_27 : decode cX1_canBeOrdered 27 = .ok (.aload_n 0, 1) := by decide +kernel
theorem dX1_canBeOrdered_28 : decode cX1_canBeOrdered 28 = .ok (.iload_n 3, 1) := by decide +kernel
theorem dX1_canBeOrdered_29 : decode cX1_canBeOrdered 29 = .ok (.aload_n 1, 1) := by decide +kernel
theorem dX1_canBeOrdered_30 : decode cX1_canBeOrdered 30 = .ok (.invokevirtual 147, 3) := by decide +kernel
theorem dX1_canBeOrdered_33 : decode cX1_canBeOrdered 33 = .ok (.ifCond .eq 7, 3) := by decide +kernel
theorem dX1_canBeOrdered_36 : decode cX1_canBeOrdered 36 = .ok (.iconst 1, 1) := by decide +kernel
theorem dX1_canBeOrdered_37 : decode cX1_canBeOrdered 37 = .ok (.goto 4, 3) := by decide +kernel
theorem dX1_canBeOrdered_40 : decode cX1_canBeOrdered 40 = .ok (.iconst 0, 1) := by decide +kernel
theorem dX1_canBeOrdered_41 : decode cX1_canBeOrdered 41 = .ok (.ireturn, 1) := by decide +kernel
set_option maxRecDepth 20000 in
theorem ggX1_isBusFit_X1_promisedCharge : GoodIn wsX1_isBusFit wsX1_promisedCharge := goodIn_r _ [10, 4, 5, 11, 12, 3, 26, 27, 28, 29, 30, 31, 32, 33, 34, 35, 36, 37, 38, 39, 40, 41, 42, 43] (by decide +kernel) (by decide +kernel)
set_option maxRecDepth 20000 in
theorem gX1_isBusFit_X1_promisedCharge : GoodIn wsX1_isBusFit (wsV RX1 123 RX1 yX1_promisedCharge wsX1_promisedCharge) := goodIn_app (goodIn_of _ (by decide +kernel)) ggX1_isBusFit_X1_promisedCharge
set_option maxRecDepth 20000 in
theorem ggX1_isBusFit_X0_holds : GoodIn wsX1_isBusFit wsX0_holds := goodIn_r _ [17, 18, 19, 38, 39, 40, 41, 42, 43] (by decide +kernel) (by decide +kernel)
set_option maxRecDepth 20000 in
theorem gX1_isBusFit_X0_holds : GoodIn wsX1_isBusFit (wsV RX1 153 RX0 yX0_holds wsX0_holds) := goodIn_app (goodIn_of _ (by decide +kernel)) ggX1_isBusFit_X0_holds
set_option maxRecDepth 20000 in
theorem ggX1_isBusFit_X0_meets : GoodIn wsX1_isBusFit wsX0_meets := goodIn_r _ [23, 24, 25, 38, 39, 40, 41, 42, 43] (by decide +kernel) (by decide +kernel)
set_option maxRecDepth 20000 in
theorem gX1_isBusFit_X0_meets : GoodIn wsX1_isBusFit (wsV RX1 156 RX0 yX0_meets wsX0_meets) := goodIn_app (goodIn_of _ (by decide +kernel)) ggX1_isBusFit_X0_meets
theorem dX1_isBusFit_0 : decode cX1_isBusFit 0 = .ok (.aload_n 0, 1) := by decide +kernel
theorem dX1_isBusFit_1 : decode cX1_isBusFit 1 = .ok (.getfield 19, 3) := by decide +kernel
theorem dX1_isBusFit_4 : decode cX1_isBusFit 4 = .ok (.iload_n 1, 1) := by decide +kernel
theorem dX1_isBusFit_5 : decode cX1_isBusFit 5 = .ok (.baload, 1) := by decide +kernel
theorem dX1_isBusFit_6 : decode cX1_isBusFit 6 = .ok (.ifCond .ne 22, 3) := by decide +kernel
theorem dX1_isBusFit_9 : decode cX1_isBusFit 9 = .ok (.aload_n 0, 1) := by decide +kernel
theorem dX1_isBusFit_10 : decode cX1_isBusFit 10 = .ok (.getfield 15, 3) := by decide +kernel
theorem dX1_isBusFit_13 : decode cX1_isBusFit 13 = .ok (.iload_n 1, 1) := by decide +kernel
theorem dX1_isBusFit_14 : decode cX1_isBusFit 14 = .ok (.iaload, 1) := by decide +kernel
theorem dX1_isBusFit_15 : decode cX1_isBusFit 15 = .ok (.aload_n 0, 1) := by decide +kernel
theorem dX1_isBusFit_16 : decode cX1_isBusFit 16 = .ok (.iload_n 1, 1) := by decide +kernel
theorem dX1_isBusFit_17 : decode cX1_isBusFit 17 = .ok (.invokevirtual 123, 3) := by decide +kernel
theorem dX1_isBusFit_20 : decode cX1_isBusFit 20 = .ok (.isub, 1) := by decide +kernel
theorem dX1_isBusFit_21 : decode cX1_isBusFit 21 = .ok (.aload_n 2, 1) := by decide +kernel
theorem dX1_isBusFit_22 : decode cX1_isBusFit 22 = .ok (.getfield 150, 3) := by decide +kernel
theorem dX1_isBusFit_25 : decode cX1_isBusFit 25 = .ok (.if_icmp .ge 5, 3) := by decide +kernel
theorem dX1_isBusFit_28 : decode cX1_isBusFit 28 = .ok (.iconst 0, 1) := by decide +kernel
theorem dX1_isBusFit_29 : decode cX1_isBusFit 29 = .ok (.ireturn, 1) := by decide +kernel
theorem dX1_isBusFit_30 : decode cX1_isBusFit 30 = .ok (.iconst 0, 1) := by decide +kernel
theorem dX1_isBusFit_31 : decode cX1_isBusFit 31 = .ok (.istore_n 3, 1) := by decide +kernel
theorem dX1_isBusFit_32 : decode cX1_isBusFit 32 = .ok (.iload_n 3, 1) := by decide +kernel
theorem dX1_isBusFit_33 : decode cX1_isBusFit 33 = .ok (.aload_n 0, 1) := by decide +kernel
theorem dX1_isBusFit_34 : decode cX1_isBusFit 34 = .ok (.getfield 39, 3) := by decide +kernel
theorem dX1_isBusFit_37 : decode cX1_isBusFit 37 = .ok (.if_icmp .ge 37, 3) := by decide +kernel
theorem dX1_isBusFit_40 : decode cX1_isBusFit 40 = .ok (.aload_n 0, 1) := by decide +kernel
theorem dX1_isBusFit_41 : decode cX1_isBusFit 41 = .ok (.getfield 11, 3) := by decide +kernel
theorem dX1_isBusFit_44 : decode cX1_isBusFit 44 = .ok (.iload_n 3, 1) := by decide +kernel
theorem dX1_isBusFit_45 : decode cX1_isBusFit 45 = .ok (.aaload, 1) := by decide +kernel
theorem dX1_isBusFit_46 : decode cX1_isBusFit 46 = .ok (.iload_n 1, 1) := by decide +kernel
theorem dX1_isBusFit_47 : decode cX1_isBusFit 47 = .ok (.invokevirtual 153, 3) := by decide +kernel
theorem dX1_isBusFit_50 : decode cX1_isBusFit 50 = .ok (.ifCond .eq 18, 3) := by decide +kernel
theorem dX1_isBusFit_53 : decode cX1_isBusFit 53 = .ok (.aload_n 0, 1) := by decide +kernel
theorem dX1_isBusFit_54 : decode cX1_isBusFit 54 = .ok (.getfield 11, 3) := by decide +kernel
theorem dX1_isBusFit_57 : decode cX1_isBusFit 57 = .ok (.iload_n 3, 1) := by decide +kernel
theorem dX1_isBusFit_58 : decode cX1_isBusFit 58 = .ok (.aaload, 1) := by decide +kernel
theorem dX1_isBusFit_59 : decode cX1_isBusFit 59 = .ok (.aload_n 2, 1) := by decide +kernel
theorem dX1_isBusFit_60 : decode cX1_isBusFit 60 = .ok (.invokevirtual 156, 3) := by decide +kernel
theorem dX1_isBusFit_63 : decode cX1_isBusFit 63 = .ok (.ifCond .eq 5, 3) := by decide +kernel
theorem dX1_isBusFit_66 : decode cX1_isBusFit 66 = .ok (.iconst 0, 1) := by decide +kernel
theorem dX1_isBusFit_67 : decode cX1_isBusFit 67 = .ok (.ireturn, 1) := by decide +kernel
theorem dX1_isBusFit_68 : decode cX1_isBusFit 68 = .ok (.iinc 3 1, 3) := by decide +kernel
theorem dX1_isBusFit_71 : decode cX1_isBusFit 71 = .ok (.goto (-39), 3) := by decide +kernel
theorem dX1_isBusFit_74 : decode cX1_isBusFit 74 = .ok (.iconst 1, 1) := by decide +kernel
theorem dX1_isBusFit_75 : decode cX1_isBusFit 75 = .ok (.ireturn, 1) := by decide +kernel
set_option maxRecDepth 20000 in
theorem ggX1_isDriverFit_X0_startDay : GoodIn wsX1_isDriverFit wsX0_startDay := goodIn_r _ [8, 9, 42, 43, 44, 45, 46, 47] (by decide +kernel) (by decide +kernel)
set_option maxRecDepth 20000 in
theorem gX1_isDriverFit_X0_startDay : GoodIn wsX1_isDriverFit (wsV RX1 160 RX0 yX0_startDay wsX0_startDay) := goodIn_app (goodIn_of _ (by decide +kernel)) ggX1_isDriverFit_X0_startDay
set_option maxRecDepth 20000 in
theorem ggX1_isDriverFit_X1_workedMinutes : GoodIn wsX1_isDriverFit wsX1_workedMinutes := goodIn_r _ [14, 2, 3, 15, 16, 17, 7, 18, 19, 20, 5, 6, 8, 9, 21, 22, 23, 24, 25, 30, 31, 32, 33, 34, 35, 36, 37, 38, 39, 40, 41, 42, 43, 44, 45, 46, 47] (by decide +kernel) (by decide +kernel)
set_option maxRecDepth 20000 in
theorem gX1_isDriverFit_X1_workedMinutes : GoodIn wsX1_isDriverFit (wsV RX1 127 RX1 yX1_workedMinutes wsX1_workedMinutes) := goodIn_app (goodIn_of _ (by decide +kernel)) ggX1_isDriverFit_X1_workedMinutes
set_option maxRecDepth 20000 in
theorem ggX1_isDriverFit_X0_length : GoodIn wsX1_isDriverFit wsX0_length := goodIn_r _ [24, 25, 9, 42, 43, 44, 45, 46, 47] (by decide +kernel) (by decide +kernel)
set_option maxRecDepth 20000 in
theorem gX1_isDriverFit_X0_length : GoodIn wsX1_isDriverFit (wsV RX1 163 RX0 yX0_length wsX0_length) := goodIn_app (goodIn_of _ (by decide +kernel)) ggX1_isDriverFit_X0_length
set_option maxRecDepth 20000 in
theorem ggX1_isDriverFit_X0_isWorkOf : GoodIn wsX1_isDriverFit wsX0_isWorkOf := goodIn_r _ [18, 19, 20, 5, 6, 7, 8, 9, 42, 43, 44, 45, 46, 47] (by decide +kernel) (by decide +kernel)
set_option maxRecDepth 20000 in
theorem gX1_isDriverFit_X0_isWorkOf : GoodIn wsX1_isDriverFit (wsV RX1 166 RX0 yX0_isWorkOf wsX0_isWorkOf) := goodIn_app (goodIn_of _ (by decide +kernel)) ggX1_isDriverFit_X0_isWorkOf
set_option maxRecDepth 20000 in
theorem ggX1_isDriverFit_X0_isRestedFrom : GoodIn wsX1_isDriverFit wsX0_isRestedFrom := goodIn_r _ [29, 25, 9, 42, 43, 44, 45, 46, 47] (by decide +kernel) (by decide +kernel)
set_option maxRecDepth 20000 in
theorem gX1_isDriverFit_X0_isRestedFrom : GoodIn wsX1_isDriverFit (wsV RX1 170 RX0 yX0_isRestedFrom wsX0_isRestedFrom) := goodIn_app (goodIn_of _ (by decide +kernel)) ggX1_isDriverFit_X0_isRestedFrom
theorem dX1_isDriverFit_0 : decode cX1_isDriverFit 0 = .ok (.aload_n 2, 1) := by decide +kernel
theorem dX1_isDriverFit_1 : decode cX1_isDriverFit 1 = .ok (.invokevirtual 160, 3) := by decide +kernel
theorem dX1_isDriverFit_4 : decode cX1_isDriverFit 4 = .ok (.istore_n 3, 1) := by decide +kernel
theorem dX1_isDriverFit_5 : decode cX1_isDriverFit 5 = .ok (.aload_n 0, 1) := by decide +kernel
theorem dX1_isDriverFit_6 : decode cX1_isDriverFit 6 = .ok (.getfield 23, 3) := by decide +kernel
theorem dX1_isDriverFit_9 : decode cX1_isDriverFit 9 = .ok (.iload_n 1, 1) := by decide +kernel
theorem dX1_isDriverFit_10 : decode cX1_isDriverFit 10 = .ok (.baload, 1) := by decide +kernel
theorem dX1_isDriverFit_11 : decode cX1_isDriverFit 11 = .ok (.ifCond .ne 20, 3) := by decide +kernel
theorem dX1_isDriverFit_14 : decode cX1_isDriverFit 14 = .ok (.aload_n 0, 1) := by decide +kernel
theorem dX1_isDriverFit_15 : decode cX1_isDriverFit 15 = .ok (.iload_n 1, 1) := by decide +kernel
theorem dX1_isDriverFit_16 : decode cX1_isDriverFit 16 = .ok (.iload_n 3, 1) := by decide +kernel
theorem dX1_isDriverFit_17 : decode cX1_isDriverFit 17 = .ok (.invokevirtual 127, 3) := by decide +kernel
theorem dX1_isDriverFit_20 : decode cX1_isDriverFit 20 = .ok (.aload_n 2, 1) := by decide +kernel
theorem dX1_isDriverFit_21 : decode cX1_isDriverFit 21 = .ok (.invokevirtual 163, 3) := by decide +kernel
theorem dX1_isDriverFit_24 : decode cX1_isDriverFit 24 = .ok (.iadd, 1) := by decide +kernel
theorem dX1_isDriverFit_25 : decode cX1_isDriverFit 25 = .ok (.sipush 480, 3) := by decide +kernel
theorem dX1_isDriverFit_28 : decode cX1_isDriverFit 28 = .ok (.if_icmp .le 5, 3) := by decide +kernel
theorem dX1_isDriverFit_31 : decode cX1_isDriverFit 31 = .ok (.iconst 0, 1) := by decide +kernel
theorem dX1_isDriverFit_32 : decode cX1_isDriverFit 32 = .ok (.ireturn, 1) := by decide +kernel
theorem dX1_isDriverFit_33 : decode cX1_isDriverFit 33 = .ok (.iconst 0, 1) := by decide +kernel
theorem dX1_isDriverFit_34 : decode cX1_isDriverFit 34 = .ok (.istore 4, 2) := by decide +kernel
theorem dX1_isDriverFit_36 : decode cX1_isDriverFit 36 = .ok (.iload 4, 2) := by decide +kernel
theorem dX1_isDriverFit_38 : decode cX1_isDriverFit 38 = .ok (.aload_n 0, 1) := by decide +kernel
theorem dX1_isDriverFit_39 : decode cX1_isDriverFit 39 = .ok (.getfield 39, 3) := by decide +kernel
theorem dX1_isDriverFit_42 : decode cX1_isDriverFit 42 = .ok (.if_icmp .ge 40, 3) := by decide +kernel
theorem dX1_isDriverFit_45 : decode cX1_isDriverFit 45 = .ok (.aload_n 0, 1) := by decide +kernel
theorem dX1_isDriverFit_46 : decode cX1_isDriverFit 46 = .ok (.getfield 11, 3) := by decide +kernel
theorem dX1_isDriverFit_49 : decode cX1_isDriverFit 49 = .ok (.iload 4, 2) := by decide +kernel
theorem dX1_isDriverFit_51 : decode cX1_isDriverFit 51 = .ok (.aaload, 1) := by decide +kernel
theorem dX1_isDriverFit_52 : decode cX1_isDriverFit 52 = .ok (.iload_n 1, 1) := by decide +kernel
theorem dX1_isDriverFit_53 : decode cX1_isDriverFit 53 = .ok (.iload_n 3, 1) := by decide +kernel
theorem dX1_isDriverFit_54 : decode cX1_isDriverFit 54 = .ok (.invokevirtual 166, 3) := by decide +kernel
theorem dX1_isDriverFit_57 : decode cX1_isDriverFit 57 = .ok (.ifCond .eq 19, 3) := by decide +kernel
theorem dX1_isDriverFit_60 : decode cX1_isDriverFit 60 = .ok (.aload_n 0, 1) := by decide +kernel
theorem dX1_isDriverFit_61 : decode cX1_isDriverFit 61 = .ok (.getfield 11, 3) := by decide +kernel
theorem dX1_isDriverFit_64 : decode cX1_isDriverFit 64 = .ok (.iload 4, 2) := by decide +kernel
theorem dX1_isDriverFit_66 : decode cX1_isDriverFit 66 = .ok (.aaload, 1) := by decide +kernel
theorem dX1_isDriverFit_67 : decode cX1_isDriverFit 67 = .ok (.aload_n 2, 1) := by decide +kernel
theorem dX1_isDriverFit_68 : decode cX1_isDriverFit 68 = .ok (.invokevirtual 170, 3) := by decide +kernel
theorem dX1_isDriverFit_71 : decode cX1_isDriverFit 71 = .ok (.ifCond .ne 5, 3) := by decide +kernel
theorem dX1_isDriverFit_74 : decode cX1_isDriverFit 74 = .ok (.iconst 0, 1) := by decide +kernel
theorem dX1_isDriverFit_75 : decode cX1_isDriverFit 75 = .ok (.ireturn, 1) := by decide +kernel
theorem dX1_isDriverFit_76 : decode cX1_isDriverFit 76 = .ok (.iinc 4 1, 3) := by decide +kernel
theorem dX1_isDriverFit_79 : decode cX1_isDriverFit 79 = .ok (.goto (-43), 3) := by decide +kernel
theorem dX1_isDriverFit_82 : decode cX1_isDriverFit 82 = .ok (.iconst 1, 1) := by decide +kernel
theorem dX1_isDriverFit_83 : decode cX1_isDriverFit 83 = .ok (.ireturn, 1) := by decide +kernel
set_option maxRecDepth 20000 in
theorem ggX1_lowestFitBus_X1_isBusFit : GoodIn wsX1_lowestFitBus wsX1_isBusFit := goodIn_r _ [5, 6, 7, 8, 9, 10, 11, 12, 13, 4, 14, 15, 16, 17, 18, 19, 20, 21, 22, 23, 24, 25, 26, 27, 28, 29, 30, 31, 32, 33, 34, 35, 36, 37, 38, 39, 40, 41, 42, 43, 44, 45, 46, 47] (by decide +kernel) (by decide +kernel)
set_option maxRecDepth 20000 in
theorem gX1_lowestFitBus_X1_isBusFit : GoodIn wsX1_lowestFitBus (wsV RX1 143 RX1 yX1_isBusFit wsX1_isBusFit) := goodIn_app (goodIn_of _ (by decide +kernel)) ggX1_lowestFitBus_X1_isBusFit
theorem dX1_lowestFitBus_0 : decode cX1_lowestFitBus 0 = .ok (.iconst 0, 1) := by decide +kernel
theorem dX1_lowestFitBus_1 : decode cX1_lowestFitBus 1 = .ok (.istore_n 2, 1) := by decide +kernel
theorem dX1_lowestFitBus_2 : decode cX1_lowestFitBus 2 = .ok (.iload_n 2, 1) := by decide +kernel
theorem dX1_lowestFitBus_3 : decode cX1_lowestFitBus 3 = .ok (.iconst 5, 1) := by decide +kernel
theorem dX1_lowestFitBus_4 : decode cX1_lowestFitBus 4 = .ok (.if_icmp .ge 20, 3) := by decide +kernel
theorem dX1_lowestFitBus_7 : decode cX1_lowestFitBus 7 = .ok (.aload_n 0, 1) := by decide +kernel
theorem dX1_lowestFitBus_8 : decode cX1_lowestFitBus 8 = .ok (.iload_n 2, 1) := by decide +kernel
theorem dX1_lowestFitBus_9 : decode cX1_lowestFitBus 9 = .ok (.aload_n 1, 1) := by decide +kernel
theorem dX1_lowestFitBus_10 : decode cX1_lowestFitBus 10 = .ok (.invokevirtual 143, 3) := by decide +kernel
theorem dX1_lowestFitBus_13 : decode cX1_lowestFitBus 13 = .ok (.ifCond .eq 5, 3) := by decide +kernel
theorem dX1_lowestFitBus_16 : decode cX1_lowestFitBus 16 = .ok (.iload_n 2, 1) := by decide +kernel
theorem dX1_lowestFitBus_17 : decode cX1_lowestFitBus 17 = .ok (.ireturn, 1) := by decide +kernel
theorem dX1_lowestFitBus_18 : decode cX1_lowestFitBus 18 = .ok (.iinc 2 1, 3) := by decide +kernel
theorem dX1_lowestFitBus_21 : decode cX1_lowestFitBus 21 = .ok (.goto (-19), 3) := by decide +kernel
theorem dX1_lowestFitBus_24 : decode cX1_lowestFitBus 24 = .ok (.iconst (-1), 1) := by decide +kernel
theorem dX1_lowestFitBus_25 : decode cX1_lowestFitBus 25 = .ok (.ireturn, 1) := by decide +kernel
set_option maxRecDepth 20000 in
theorem ggX1_lowestFitDriver_X1_isDriverFit : GoodIn wsX1_lowestFitDriver wsX1_isDriverFit := goodIn_r _ [5, 6, 7, 8, 9, 10, 11, 12, 13, 14, 15, 16, 17, 4, 18, 19, 20, 21, 22, 23, 24, 25, 26, 27, 28, 29, 30, 31, 32, 33, 34, 35, 36, 37, 38, 39, 40, 41, 42, 43, 44, 45, 46, 47, 48, 49, 50, 51] (by decide +kernel) (by decide +kernel)
set_option maxRecDepth 20000 in
theorem gX1_lowestFitDriver_X1_isDriverFit : GoodIn wsX1_lowestFitDriver (wsV RX1 147 RX1 yX1_isDriverFit wsX1_isDriverFit) := goodIn_app (goodIn_of _ (by decide +kernel)) ggX1_lowestFitDriver_X1_isDriverFit
theorem dX1_lowestFitDriver_0 : decode cX1_lowestFitDriver 0 = .ok (.iconst 0, 1) := by decide +kernel
theorem dX1_lowestFitDriver_1 : decode cX1_lowestFitDriver 1 = .ok (.istore_n 2, 1) := by decide +kernel
theorem dX1_lowestFitDriver_2 : decode cX1_lowestFitDriver 2 = .ok (.iload_n 2, 1) := by decide +kernel
theorem dX1_lowestFitDriver_3 : decode cX1_lowestFitDriver 3 = .ok (.iconst 5, 1) := by decide +kernel
theorem dX1_lowestFitDriver_4 : decode cX1_lowestFitDriver 4 = .ok (.if_icmp .ge 20, 3) := by decide +kernel
theorem dX1_lowestFitDriver_7 : decode cX1_lowestFitDriver 7 = .ok (.aload_n 0, 1) := by decide +kernel
theorem dX1_lowestFitDriver_8 : decode cX1_lowestFitDriver 8 = .ok (.iload_n 2, 1) := by decide +kernel
theorem dX1_lowestFitDriver_9 : decode cX1_lowestFitDriver 9 = .ok (.aload_n 1, 1) := by decide +kernel
theorem dX1_lowestFitDriver_10 : decode cX1_lowestFitDriver 10 = .ok (.invokevirtual 147, 3) := by decide +kernel
theorem dX1_lowestFitDriver_13 : decode cX1_lowestFitDriver 13 = .ok (.ifCond .eq 5, 3) := by decide +kernel
theorem dX1_lowestFitDriver_16 : decode cX1_lowestFitDriver 16 = .ok (.iload_n 2, 1) := by decide +kernel
theorem dX1_lowestFitDriver_17 : decode cX1_lowestFitDriver 17 = .ok (.ireturn, 1) := by decide +kernel
theorem dX1_lowestFitDriver_18 : decode cX1_lowestFitDriver 18 = .ok (.iinc 2 1, 3) := by decide +kernel
theorem dX1_lowestFitDriver_21 : decode cX1_lowestFitDriver 21 = .ok (.goto (-19), 3) := by decide +kernel
theorem dX1_lowestFitDriver_24 : decode cX1_lowestFitDriver 24 = .ok (.iconst (-1), 1) := by decide +kernel
theorem dX1_lowestFitDriver_25 : decode cX1_lowestFitDriver 25 = .ok (.ireturn, 1) := by decide +kernel
theorem dX1_promisedCharge_0 : decode cX1_promisedCharge 0 = .ok (.iconst 0, 1) := by decide +kernel
theorem dX1_promisedCharge_1 : decode cX1_promisedCharge 1 = .ok (.istore_n 2, 1) := by decide +kernel
theorem dX1_promisedCharge_2 : decode cX1_promisedCharge 2 = .ok (.iconst 0, 1) := by decide +kernel
theorem dX1_promisedCharge_3 : decode cX1_promisedCharge 3 = .ok (.istore_n 3, 1) := by decide +kernel
theorem dX1_promisedCharge_4 : decode cX1_promisedCharge 4 = .ok (.iload_n 3, 1) := by decide +kernel
theorem dX1_promisedCharge_5 : decode cX1_promisedCharge 5 = .ok (.aload_n 0, 1) := by decide +kernel
theorem dX1_promisedCharge_6 : decode cX1_promisedCharge 6 = .ok (.getfield 39, 3) := by decide +kernel
theorem dX1_promisedCharge_9 : decode cX1_promisedCharge 9 = .ok (.if_icmp .ge 47, 3) := by decide +kernel
theorem dX1_promisedCharge_12 : decode cX1_promisedCharge 12 = .ok (.aload_n 0, 1) := by decide +kernel
theorem dX1_promisedCharge_13 : decode cX1_promisedCharge 13 = .ok (.getfield 11, 3) := by decide +kernel
theorem dX1_promisedCharge_16 : decode cX1_promisedCharge 16 = .ok (.iload_n 3, 1) := by decide +kernel
theorem dX1_promisedCharge_17 : decode cX1_promisedCharge 17 = .ok (.aaload, 1) := by decide +kernel
theorem dX1_promisedCharge_18 : decode cX1_promisedCharge 18 = .ok (.getfield 117, 3) := by decide +kernel
theorem dX1_promisedCharge_21 : decode cX1_promisedCharge 21 = .ok (.iload_n 1, 1) := by decide +kernel
theorem dX1_promisedCharge_22 : decode cX1_promisedCharge 22 = .ok (.if_icmp .ne 28, 3) := by decide +kernel
theorem dX1_promisedCharge_25 : decode cX1_promisedCharge 25 = .ok (.aload_n 0, 1) := by decide +kernel
theorem dX1_promisedCharge_26 : decode cX1_promisedCharge 26 = .ok (.getfield 11, 3) := by decide +kernel
theorem dX1_promisedCharge_29 : decode cX1_promisedCharge 29 = .ok (.iload_n 3, 1) := by decide +kernel
theorem dX1_promisedCharge_30 : decode cX1_promisedCharge 30 = .ok (.aaload, 1) := by decide +kernel
theorem dX1_promisedCharge_31 : decode cX1_promisedCharge 31 = .ok (.getfield 114, 3) := by decide +kernel
theorem dX1_promisedCharge_34 : decode cX1_promisedCharge 34 = .ok (.iconst 1, 1) := by decide +kernel
theorem dX1_promisedCharge_35 : decode cX1_promisedCharge 35 = .ok (.if_icmp .ne 15, 3) := by decide +kernel
theorem dX1_promisedCharge_38 : decode cX1_promisedCharge 38 = .ok (.iload_n 2, 1) := by decide +kernel
theorem dX1_promisedCharge_39 : decode cX1_promisedCharge 39 = .ok (.aload_n 0, 1) := by decide +kernel
theorem dX1_promisedCharge_40 : decode cX1_promisedCharge 40 = .ok (.getfield 11, 3) := by decide +kernel
theorem dX1_promisedCharge_43 : decode cX1_promisedCharge 43 = .ok (.iload_n 3, 1) := by decide +kernel
theorem dX1_promisedCharge_44 : decode cX1_promisedCharge 44 = .ok (.aaload, 1) := by decide +kernel
theorem dX1_promisedCharge_45 : decode cX1_promisedCharge 45 = .ok (.getfield 150, 3) := by decide +kernel
theorem dX1_promisedCharge_48 : decode cX1_promisedCharge 48 = .ok (.iadd, 1) := by decide +kernel
theorem dX1_promisedCharge_49 : decode cX1_promisedCharge 49 = .ok (.istore_n 2, 1) := by decide +kernel
theorem dX1_promisedCharge_50 : decode cX1_promisedCharge 50 = .ok (.iinc 3 1, 3) := by decide +kernel
theorem dX1_promisedCharge_53 : decode cX1_promisedCharge 53 = .ok (.goto (-49), 3) := by decide +kernel
theorem dX1_promisedCharge_56 : decode cX1_promisedCharge 56 = .ok (.iload_n 2, 1) := by decide +kernel
theorem dX1_promisedCharge_57 : decode cX1_promisedCharge 57 = .ok (.ireturn, 1) := by decide +kernel
set_option maxRecDepth 20000 in
theorem ggX1_workedMinutes_X0_isWorkOf : GoodIn wsX1_workedMinutes wsX0_isWorkOf := goodIn_r _ [7, 8, 9, 10, 11, 6, 12, 13, 31, 32, 33, 34, 35, 36] (by decide +kernel) (by decide +kernel)
set_option maxRecDepth 20000 in
theorem gX1_workedMinutes_X0_isWorkOf : GoodIn wsX1_workedMinutes (wsV RX1 166 RX0 yX0_isWorkOf wsX0_isWorkOf) := goodIn_app (goodIn_of _ (by decide +kernel)) ggX1_workedMinutes_X0_isWorkOf
set_option maxRecDepth 20000 in
theorem ggX1_workedMinutes_X0_length : GoodIn wsX1_workedMinutes wsX0_length := goodIn_r _ [17, 18, 13, 31, 32, 33, 34, 35, 36] (by decide +kernel) (by decide +kernel)
set_option maxRecDepth 20000 in
theorem gX1_workedMinutes_X0_length : GoodIn wsX1_workedMinutes (wsV RX1 163 RX0 yX0_length wsX0_length) := goodIn_app (goodIn_of _ (by decide +kernel)) ggX1_workedMinutes_X0_length
theorem dX1_workedMinutes_0 : decode cX1_workedMinutes 0 = .ok (.iconst 0, 1) := by decide +kernel
theorem dX1_workedMinutes_1 : decode cX1_workedMinutes 1 = .ok (.istore_n 3, 1) := by decide +kernel
theorem dX1_workedMinutes_2 : decode cX1_workedMinutes 2 = .ok (.iconst 0, 1) := by decide +kernel
theorem dX1_workedMinutes_3 : decode cX1_workedMinutes 3 = .ok (.istore 4, 2) := by decide +kernel
theorem dX1_workedMinutes_5 : decode cX1_workedMinutes 5 = .ok (.iload 4, 2) := by decide +kernel
theorem dX1_workedMinutes_7 : decode cX1_workedMinutes 7 = .ok (.aload_n 0, 1) := by decide +kernel
theorem dX1_workedMinutes_8 : decode cX1_workedMinutes 8 = .ok (.getfield 39, 3) := by decide +kernel
theorem dX1_workedMinutes_11 : decode cX1_workedMinutes 11 = .ok (.if_icmp .ge 37, 3) := by decide +kernel
theorem dX1_workedMinutes_14 : decode cX1_workedMinutes 14 = .ok (.aload_n 0, 1) := by decide +kernel
theorem dX1_workedMinutes_15 : decode cX1_workedMinutes 15 = .ok (.getfield 11, 3) := by decide +kernel
theorem dX1_workedMinutes_18 : decode cX1_workedMinutes 18 = .ok (.iload 4, 2) := by decide +kernel
theorem dX1_workedMinutes_20 : decode cX1_workedMinutes 20 = .ok (.aaload, 1) := by decide +kernel
theorem dX1_workedMinutes_21 : decode cX1_workedMinutes 21 = .ok (.iload_n 1, 1) := by decide +kernel
theorem dX1_workedMinutes_22 : decode cX1_workedMinutes 22 = .ok (.iload_n 2, 1) := by decide +kernel
theorem dX1_workedMinutes_23 : decode cX1_workedMinutes 23 = .ok (.invokevirtual 166, 3) := by decide +kernel
theorem dX1_workedMinutes_26 : decode cX1_workedMinutes 26 = .ok (.ifCond .eq 16, 3) := by decide +kernel
theorem dX1_workedMinutes_29 : decode cX1_workedMinutes 29 = .ok (.iload_n 3, 1) := by decide +kernel
theorem dX1_workedMinutes_30 : decode cX1_workedMinutes 30 = .ok (.aload_n 0, 1) := by decide +kernel
theorem dX1_workedMinutes_31 : decode cX1_workedMinutes 31 = .ok (.getfield 11, 3) := by decide +kernel
theorem dX1_workedMinutes_34 : decode cX1_workedMinutes 34 = .ok (.iload 4, 2) := by decide +kernel
theorem dX1_workedMinutes_36 : decode cX1_workedMinutes 36 = .ok (.aaload, 1) := by decide +kernel
theorem dX1_workedMinutes_37 : decode cX1_workedMinutes 37 = .ok (.invokevirtual 163, 3) := by decide +kernel
theorem dX1_workedMinutes_40 : decode cX1_workedMinutes 40 = .ok (.iadd, 1) := by decide +kernel
theorem dX1_workedMinutes_41 : decode cX1_workedMinutes 41 = .ok (.istore_n 3, 1) := by decide +kernel
theorem dX1_workedMinutes_42 : decode cX1_workedMinutes 42 = .ok (.iinc 4 1, 3) := by decide +kernel
theorem dX1_workedMinutes_45 : decode cX1_workedMinutes 45 = .ok (.goto (-40), 3) := by decide +kernel
theorem dX1_workedMinutes_48 : decode cX1_workedMinutes 48 = .ok (.iload_n 3, 1) := by decide +kernel
theorem dX1_workedMinutes_49 : decode cX1_workedMinutes 49 = .ok (.ireturn, 1) := by decide +kernel
set_option maxRecDepth 20000 in
theorem ggX1_takeOrdersFromBus_X0_drop : GoodIn wsX1_takeOrdersFromBus wsX0_drop := goodIn_r _ [9, 10, 11, 12, 25, 26, 27, 28, 29, 30] (by decide +kernel) (by decide +kernel)
set_option maxRecDepth 20000 in
theorem gX1_takeOrdersFromBus_X0_drop : GoodIn wsX1_takeOrdersFromBus (wsV RX1 173 RX0 yX0_drop wsX0_drop) := goodIn_app (goodIn_of _ (by decide +kernel)) ggX1_takeOrdersFromBus_X0_drop
theorem dX1_takeOrdersFromBus_0 : decode cX1_takeOrdersFromBus 0 = .ok (.iconst 0, 1) := by decide +kernel
theorem dX1_takeOrdersFromBus_1 : decode cX1_takeOrdersFromBus 1 = .ok (.istore_n 2, 1) := by decide +kernel
theorem dX1_takeOrdersFromBus_2 : decode cX1_takeOrdersFromBus 2 = .ok (.iload_n 2, 1) := by decide +kernel
theorem dX1_takeOrdersFromBus_3 : decode cX1_takeOrdersFromBus 3 = .ok (.aload_n 0, 1) := by decide +kernel
theorem dX1_takeOrdersFromBus_4 : decode cX1_takeOrdersFromBus 4 = .ok (.getfield 39, 3) := by decide +kernel
theorem dX1_takeOrdersFromBus_7 : decode cX1_takeOrdersFromBus 7 = .ok (.if_icmp .ge 45, 3) := by decide +kernel
theorem dX1_takeOrdersFromBus_10 : decode cX1_takeOrdersFromBus 10 = .ok (.aload_n 0, 1) := by decide +kernel
theorem dX1_takeOrdersFromBus_11 : decode cX1_takeOrdersFromBus 11 = .ok (.getfield 11, 3) := by decide +kernel
theorem dX1_takeOrdersFromBus_14 : decode cX1_takeOrdersFromBus 14 = .ok (.iload_n 2, 1) := by decide +kernel
theorem dX1_takeOrdersFromBus_15 : decode cX1_takeOrdersFromBus 15 = .ok (.aaload, 1) := by decide +kernel
theorem dX1_takeOrdersFromBus_16 : decode cX1_takeOrdersFromBus 16 = .ok (.getfield 114, 3) := by decide +kernel
theorem dX1_takeOrdersFromBus_19 : decode cX1_takeOrdersFromBus 19 = .ok (.iconst 1, 1) := by decide +kernel
theorem dX1_takeOrdersFromBus_20 : decode cX1_takeOrdersFromBus 20 = .ok (.if_icmp .ne 26, 3) := by decide +kernel
theorem dX1_takeOrdersFromBus_23 : decode cX1_takeOrdersFromBus 23 = .ok (.aload_n 0, 1) := by decide +kernel
theorem dX1_takeOrdersFromBus_24 : decode cX1_takeOrdersFromBus 24 = .ok (.getfield 11, 3) := by decide +kernel
theorem dX1_takeOrdersFromBus_27 : decode cX1_takeOrdersFromBus 27 = .ok (.iload_n 2, 1) := by decide +kernel
theorem dX1_takeOrdersFromBus_28 : decode cX1_takeOrdersFromBus 28 = .ok (.aaload, 1) := by decide +kernel
theorem dX1_takeOrdersFromBus_29 : decode cX1_takeOrdersFromBus 29 = .ok (.getfield 117, 3) := by decide +kernel
theorem dX1_takeOrdersFromBus_32 : decode cX1_takeOrdersFromBus 32 = .ok (.iload_n 1, 1) := by decide +kernel
theorem dX1_takeOrdersFromBus_33 : decode cX1_takeOrdersFromBus 33 = .ok (.if_icmp .ne 13, 3) := by decide +kernel
theorem dX1_takeOrdersFromBus_36 : decode cX1_takeOrdersFromBus 36 = .ok (.aload_n 0, 1) := by decide +kernel
theorem dX1_takeOrdersFromBus_37 : decode cX1_takeOrdersFromBus 37 = .ok (.getfield 11, 3) := by decide +kernel
theorem dX1_takeOrdersFromBus_40 : decode cX1_takeOrdersFromBus 40 = .ok (.iload_n 2, 1) := by decide +kernel
theorem dX1_takeOrdersFromBus_41 : decode cX1_takeOrdersFromBus 41 = .ok (.aaload, 1) := by decide +kernel
theorem dX1_takeOrdersFromBus_42 : decode cX1_takeOrdersFromBus 42 = .ok (.iconst 0, 1) := by decide +kernel
theorem dX1_takeOrdersFromBus_43 : decode cX1_takeOrdersFromBus 43 = .ok (.invokevirtual 173, 3) := by decide +kernel
theorem dX1_takeOrdersFromBus_46 : decode cX1_takeOrdersFromBus 46 = .ok (.iinc 2 1, 3) := by decide +kernel
theorem dX1_takeOrdersFromBus_49 : decode cX1_takeOrdersFromBus 49 = .ok (.goto (-47), 3) := by decide +kernel
theorem dX1_takeOrdersFromBus_52 : decode cX1_takeOrdersFromBus 52 = .ok (.return_, 1) := by decide +kernel
set_option maxRecDepth 20000 in
theorem ggX1_takeOrdersFromDriver_X0_drop : GoodIn wsX1_takeOrdersFromDriver wsX0_drop := goodIn_r _ [9, 10, 11, 12, 25, 26, 27, 28, 29, 30] (by decide +kernel) (by decide +kernel)
set_option maxRecDepth 20000 in
theorem gX1_takeOrdersFromDriver_X0_drop : GoodIn wsX1_takeOrdersFromDriver (wsV RX1 173 RX0 yX0_drop wsX0_drop) := goodIn_app (goodIn_of _ (by decide +kernel)) ggX1_takeOrdersFromDriver_X0_drop
theorem dX1_takeOrdersFromDriver_0 : decode cX1_takeOrdersFromDriver 0 = .ok (.iconst 0, 1) := by decide +kernel
theorem dX1_takeOrdersFromDriver_1 : decode cX1_takeOrdersFromDriver 1 = .ok (.istore_n 2, 1) := by decide +kernel
theorem dX1_takeOrdersFromDriver_2 : decode cX1_takeOrdersFromDriver 2 = .ok (.iload_n 2, 1) := by decide +kernel
theorem dX1_takeOrdersFromDriver_3 : decode cX1_takeOrdersFromDriver 3 = .ok (.aload_n 0, 1) := by decide +kernel
theorem dX1_takeOrdersFromDriver_4 : decode cX1_takeOrdersFromDriver 4 = .ok (.getfield 39, 3) := by decide +kernel
theorem dX1_takeOrdersFromDriver_7 : decode cX1_takeOrdersFromDriver 7 = .ok (.if_icmp .ge 45, 3) := by decide +kernel
theorem dX1_takeOrdersFromDriver_10 : decode cX1_takeOrdersFromDriver 10 = .ok (.aload_n 0, 1) := by decide +kernel
theorem dX1_takeOrdersFromDriver_11 : decode cX1_takeOrdersFromDriver 11 = .ok (.getfield 11, 3) := by decide +kernel
theorem dX1_takeOrdersFromDriver_14 : decode cX1_takeOrdersFromDriver 14 = .ok (.iload_n 2, 1) := by decide +kernel
theorem dX1_takeOrdersFromDriver_15 : decode cX1_takeOrdersFromDriver 15 = .ok (.aaload, 1) := by decide +kernel
theorem dX1_takeOrdersFromDriver_16 : decode cX1_takeOrdersFromDriver 16 = .ok (.getfield 114, 3) := by decide +kernel
theorem dX1_takeOrdersFromDriver_19 : decode cX1_takeOrdersFromDriver 19 = .ok (.iconst 1, 1) := by decide +kernel
theorem dX1_takeOrdersFromDriver_20 : decode cX1_takeOrdersFromDriver 20 = .ok (.if_icmp .ne 26, 3) := by decide +kernel
theorem dX1_takeOrdersFromDriver_23 : decode cX1_takeOrdersFromDriver 23 = .ok (.aload_n 0, 1) := by decide +kernel
theorem dX1_takeOrdersFromDriver_24 : decode cX1_takeOrdersFromDriver 24 = .ok (.getfield 11, 3) := by decide +kernel
theorem dX1_takeOrdersFromDriver_27 : decode cX1_takeOrdersFromDriver 27 = .ok (.iload_n 2, 1) := by decide +kernel
theorem dX1_takeOrdersFromDriver_28 : decode cX1_takeOrdersFromDriver 28 = .ok (.aaload, 1) := by decide +kernel
theorem dX1_takeOrdersFromDriver_29 : decode cX1_takeOrdersFromDriver 29 = .ok (.getfield 120, 3) := by decide +kernel
theorem dX1_takeOrdersFromDriver_32 : decode cX1_takeOrdersFromDriver 32 = .ok (.iload_n 1, 1) := by decide +kernel
theorem dX1_takeOrdersFromDriver_33 : decode cX1_takeOrdersFromDriver 33 = .ok (.if_icmp .ne 13, 3) := by decide +kernel
theorem dX1_takeOrdersFromDriver_36 : decode cX1_takeOrdersFromDriver 36 = .ok (.aload_n 0, 1) := by decide +kernel
theorem dX1_takeOrdersFromDriver_37 : decode cX1_takeOrdersFromDriver 37 = .ok (.getfield 11, 3) := by decide +kernel
theorem dX1_takeOrdersFromDriver_40 : decode cX1_takeOrdersFromDriver 40 = .ok (.iload_n 2, 1) := by decide +kernel
theorem dX1_takeOrdersFromDriver_41 : decode cX1_takeOrdersFromDriver 41 = .ok (.aaload, 1) := by decide +kernel
theorem dX1_takeOrdersFromDriver_42 : decode cX1_takeOrdersFromDriver 42 = .ok (.iconst 0, 1) := by decide +kernel
theorem dX1_takeOrdersFromDriver_43 : decode cX1_takeOrdersFromDriver 43 = .ok (.invokevirtual 173, 3) := by decide +kernel
theorem dX1_takeOrdersFromDriver_46 : decode cX1_takeOrdersFromDriver 46 = .ok (.iinc 2 1, 3) := by decide +kernel
theorem dX1_takeOrdersFromDriver_49 : decode cX1_takeOrdersFromDriver 49 = .ok (.goto (-47), 3) := by decide +kernel
theorem dX1_takeOrdersFromDriver_52 : decode cX1_takeOrdersFromDriver 52 = .ok (.return_, 1) := by decide +kernel
set_option maxRecDepth 20000 in
theorem ggX1_swapBus_X1_giveOtherBus : GoodIn wsX1_swapBus wsX1_giveOtherBus := goodIn_r _ [9, 4, 10, 11, 12, 13, 8, 14, 15, 16, 17, 18, 19, 20, 1, 2, 21, 22, 23, 24, 3, 25, 26, 27, 28, 29, 30, 31, 32, 33, 34, 35, 36, 37, 38, 39, 40, 41, 42, 43, 44, 45, 46, 47, 48, 49, 50, 51, 64, 65, 66, 67, 68, 69, 52, 53, 54, 55, 56, 57, 58, 59, 60, 61, 62, 63] (by decide +kernel) (by decide +kernel)
set_option maxRecDepth 20000 in
theorem gX1_swapBus_X1_giveOtherBus : GoodIn wsX1_swapBus (wsV RX1 176 RX1 yX1_giveOtherBus wsX1_giveOtherBus) := goodIn_app (goodIn_of _ (by decide +kernel)) ggX1_swapBus_X1_giveOtherBus
theorem dX1_swapBus_0 : decode cX1_swapBus 0 = .ok (.iconst 0, 1) := by decide +kernel
theorem dX1_swapBus_1 : decode cX1_swapBus 1 = .ok (.istore_n 2, 1) := by decide +kernel
theorem dX1_swapBus_2 : decode cX1_swapBus 2 = .ok (.iload_n 2, 1) := by decide +kernel
theorem dX1_swapBus_3 : decode cX1_swapBus 3 = .ok (.aload_n 0, 1) := by decide +kernel
theorem dX1_swapBus_4 : decode cX1_swapBus 4 = .ok (.getfield 39, 3) := by decide +kernel
theorem dX1_swapBus_7 : decode cX1_swapBus 7 = .ok (.if_icmp .ge 45, 3) := by decide +kernel
theorem dX1_swapBus_10 : decode cX1_swapBus 10 = .ok (.aload_n 0, 1) := by decide +kernel
theorem dX1_swapBus_11 : decode cX1_swapBus 11 = .ok (.getfield 11, 3) := by decide +kernel
theorem dX1_swapBus_14 : decode cX1_swapBus 14 = .ok (.iload_n 2, 1) := by decide +kernel
theorem dX1_swapBus_15 : decode cX1_swapBus 15 = .ok (.aaload, 1) := by decide +kernel
theorem dX1_swapBus_16 : decode cX1_swapBus 16 = .ok (.getfield 114, 3) := by decide +kernel
theorem dX1_swapBus_19 : decode cX1_swapBus 19 = .ok (.iconst 2, 1) := by decide +kernel
theorem dX1_swapBus_20 : decode cX1_swapBus 20 = .ok (.if_icmp .ne 26, 3) := by decide +kernel
theorem dX1_swapBus_23 : decode cX1_swapBus 23 = .ok (.aload_n 0, 1) := by decide +kernel
theorem dX1_swapBus_24 : decode cX1_swapBus 24 = .ok (.getfield 11, 3) := by decide +kernel
theorem dX1_swapBus_27 : decode cX1_swapBus 27 = .ok (.iload_n 2, 1) := by decide +kernel
theorem dX1_swapBus_28 : decode cX1_swapBus 28 = .ok (.aaload, 1) := by decide +kernel
theorem dX1_swapBus_29 : decode cX1_swapBus 29 = .ok (.getfield 117, 3) := by decide +kernel
theorem dX1_swapBus_32 : decode cX1_swapBus 32 = .ok (.iload_n 1, 1) := by decide +kernel
theorem dX1_swapBus_33 : decode cX1_swapBus 33 = .ok (.if_icmp .ne 13, 3) := by decide +kernel
theorem dX1_swapBus_36 : decode cX1_swapBus 36 = .ok (.aload_n 0, 1) := by decide +kernel
theorem dX1_swapBus_37 : decode cX1_swapBus 37 = .ok (.aload_n 0, 1) := by decide +kernel
theorem dX1_swapBus_38 : decode cX1_swapBus 38 = .ok (.getfield 11, 3) := by decide +kernel
theorem dX1_swapBus_41 : decode cX1_swapBus 41 = .ok (.iload_n 2, 1) := by decide +kernel
theorem dX1_swapBus_42 : decode cX1_swapBus 42 = .ok (.aaload, 1) := by decide +kernel
theorem dX1_swapBus_43 : decode cX1_swapBus 43 = .ok (.invokevirtual 176, 3) := by decide +kernel
theorem dX1_swapBus_46 : decode cX1_swapBus 46 = .ok (.iinc 2 1, 3) := by decide +kernel
theorem dX1_swapBus_49 : decode cX1_swapBus 49 = .ok (.goto (-47), 3) := by decide +kernel
theorem dX1_swapBus_52 : decode cX1_swapBus 52 = .ok (.return_, 1) := by decide +kernel
set_option maxRecDepth 20000 in
theorem ggX1_giveOtherBus_X1_lowestFitBus : GoodIn wsX1_giveOtherBus wsX1_lowestFitBus := goodIn_r _ [7, 8, 9, 10, 6, 11, 12, 13, 2, 14, 15, 16, 17, 18, 19, 1, 20, 21, 22, 23, 24, 25, 26, 27, 28, 29, 30, 31, 32, 33, 54, 55, 56, 57, 58, 59, 60, 61, 62, 63, 64, 65, 48, 49, 50, 51, 52, 53] (by decide +kernel) (by decide +kernel)
set_option maxRecDepth 20000 in
theorem gX1_giveOtherBus_X1_lowestFitBus : GoodIn wsX1_giveOtherBus (wsV RX1 180 RX1 yX1_lowestFitBus wsX1_lowestFitBus) := goodIn_app (goodIn_of _ (by decide +kernel)) ggX1_giveOtherBus_X1_lowestFitBus
set_option maxRecDepth 20000 in
theorem ggX1_giveOtherBus_X0_drop : GoodIn wsX1_giveOtherBus wsX0_drop := goodIn_r _ [37, 27, 26, 38, 48, 49, 50, 51, 52, 53] (by decide +kernel) (by decide +kernel)
set_option maxRecDepth 20000 in
theorem gX1_giveOtherBus_X0_drop : GoodIn wsX1_giveOtherBus (wsV RX1 173 RX0 yX0_drop wsX0_drop) := goodIn_app (goodIn_of _ (by decide +kernel)) ggX1_giveOtherBus_X0_drop
set_option maxRecDepth 20000 in
theorem ggX1_giveOtherBus_X1_sendOut : GoodIn wsX1_giveOtherBus wsX1_sendOut := goodIn_r _ [42, 13, 43, 44, 45, 6, 46, 47, 54, 55, 56, 57, 58, 59, 60, 61, 62, 63, 64, 65] (by decide +kernel) (by decide +kernel)
set_option maxRecDepth 20000 in
theorem gX1_giveOtherBus_X1_sendOut : GoodIn wsX1_giveOtherBus (wsV RX1 184 RX1 yX1_sendOut wsX1_sendOut) := goodIn_app (goodIn_of _ (by decide +kernel)) ggX1_giveOtherBus_X1_sendOut
theorem dX1_giveOtherBus_0 : decode cX1_giveOtherBus 0 = .ok (.aload_n 1, 1) := by decide +kernel
theorem dX1_giveOtherBus_1 : decode cX1_giveOtherBus 1 = .ok (.iconst (-1), 1) := by decide +kernel
theorem dX1_giveOtherBus_2 : decode cX1_giveOtherBus 2 = .ok (.putfield 117, 3) := by decide +kernel
theorem dX1_giveOtherBus_5 : decode cX1_giveOtherBus 5 = .ok (.aload_n 0, 1) := by decide +kernel
theorem dX1_giveOtherBus_6 : decode cX1_giveOtherBus 6 = .ok (.aload_n 1, 1) := by decide +kernel
theorem dX1_giveOtherBus_7 : decode cX1_giveOtherBus 7 = .ok (.invokevirtual 180, 3) := by decide +kernel
theorem dX1_giveOtherBus_10 : decode cX1_giveOtherBus 10 = .ok (.istore_n 2, 1) := by decide +kernel
theorem dX1_giveOtherBus_11 : decode cX1_giveOtherBus 11 = .ok (.iload_n 2, 1) := by decide +kernel
theorem dX1_giveOtherBus_12 : decode cX1_giveOtherBus 12 = .ok (.iconst (-1), 1) := by decide +kernel
theorem dX1_giveOtherBus_13 : decode cX1_giveOtherBus 13 = .ok (.if_icmp .ne 11, 3) := by decide +kernel
theorem dX1_giveOtherBus_16 : decode cX1_giveOtherBus 16 = .ok (.aload_n 1, 1) := by decide +kernel
theorem dX1_giveOtherBus_17 : decode cX1_giveOtherBus 17 = .ok (.iconst 4, 1) := by decide +kernel
theorem dX1_giveOtherBus_18 : decode cX1_giveOtherBus 18 = .ok (.invokevirtual 173, 3) := by decide +kernel
theorem dX1_giveOtherBus_21 : decode cX1_giveOtherBus 21 = .ok (.goto 17, 3) := by decide +kernel
theorem dX1_giveOtherBus_24 : decode cX1_giveOtherBus 24 = .ok (.aload_n 1, 1) := by decide +kernel
theorem dX1_giveOtherBus_25 : decode cX1_giveOtherBus 25 = .ok (.iload_n 2, 1) := by decide +kernel
theorem dX1_giveOtherBus_26 : decode cX1_giveOtherBus 26 = .ok (.putfield 117, 3) := by decide +kernel
theorem dX1_giveOtherBus_29 : decode cX1_giveOtherBus 29 = .ok (.aload_n 0, 1) := by decide +kernel
theorem dX1_giveOtherBus_30 : decode cX1_giveOtherBus 30 = .ok (.iload_n 2, 1) := by decide +kernel
theorem dX1_giveOtherBus_31 : decode cX1_giveOtherBus 31 = .ok (.aload_n 1, 1) := by decide +kernel
theorem dX1_giveOtherBus_32 : decode cX1_giveOtherBus 32 = .ok (.getfield 150, 3) := by decide +kernel
theorem dX1_giveOtherBus_35 : decode cX1_giveOtherBus 35 = .ok (.invokevirtual 184, 3) := by decide +kernel
theorem dX1_giveOtherBus_38 : decode cX1_giveOtherBus 38 = .ok (.return_, 1) := by decide +kernel
set_option maxRecDepth 20000 in
theorem ggX1_swapDriver_X1_giveOtherDriver : GoodIn wsX1_swapDriver wsX1_giveOtherDriver := goodIn_r _ [9, 4, 10, 11, 12, 8, 13, 14, 15, 16, 17, 18, 1, 2, 19, 20, 21, 22, 23, 24, 25, 26, 27, 28, 29, 30, 31, 32, 33, 34, 35, 36, 37, 38, 39, 40, 41, 42, 43, 44, 45, 46, 47, 48, 49, 62, 63, 64, 65, 66, 67, 50, 51, 52, 53, 54, 55, 56, 57, 58, 59, 60, 61] (by decide +kernel) (by decide +kernel)
set_option maxRecDepth 20000 in
theorem gX1_swapDriver_X1_giveOtherDriver : GoodIn wsX1_swapDriver (wsV RX1 187 RX1 yX1_giveOtherDriver wsX1_giveOtherDriver) := goodIn_app (goodIn_of _ (by decide +kernel)) ggX1_swapDriver_X1_giveOtherDriver
theorem dX1_swapDriver_0 : decode cX1_swapDriver 0 = .ok (.iconst 0, 1) := by decide +kernel
theorem dX1_swapDriver_1 : decode cX1_swapDriver 1 = .ok (.istore_n 2, 1) := by decide +kernel
theorem dX1_swapDriver_2 : decode cX1_swapDriver 2 = .ok (.iload_n 2, 1) := by decide +kernel
theorem dX1_swapDriver_3 : decode cX1_swapDriver 3 = .ok (.aload_n 0, 1) := by decide +kernel
theorem dX1_swapDriver_4 : decode cX1_swapDriver 4 = .ok (.getfield 39, 3) := by decide +kernel
theorem dX1_swapDriver_7 : decode cX1_swapDriver 7 = .ok (.if_icmp .ge 45, 3) := by decide +kernel
theorem dX1_swapDriver_10 : decode cX1_swapDriver 10 = .ok (.aload_n 0, 1) := by decide +kernel
theorem dX1_swapDriver_11 : decode cX1_swapDriver 11 = .ok (.getfield 11, 3) := by decide +kernel
theorem dX1_swapDriver_14 : decode cX1_swapDriver 14 = .ok (.iload_n 2, 1) := by decide +kernel
theorem dX1_swapDriver_15 : decode cX1_swapDriver 15 = .ok (.aaload, 1) := by decide +kernel
theorem dX1_swapDriver_16 : decode cX1_swapDriver 16 = .ok (.getfield 114, 3) := by decide +kernel
theorem dX1_swapDriver_19 : decode cX1_swapDriver 19 = .ok (.iconst 2, 1) := by decide +kernel
theorem dX1_swapDriver_20 : decode cX1_swapDriver 20 = .ok (.if_icmp .ne 26, 3) := by decide +kernel
theorem dX1_swapDriver_23 : decode cX1_swapDriver 23 = .ok (.aload_n 0, 1) := by decide +kernel
theorem dX1_swapDriver_24 : decode cX1_swapDriver 24 = .ok (.getfield 11, 3) := by decide +kernel
theorem dX1_swapDriver_27 : decode cX1_swapDriver 27 = .ok (.iload_n 2, 1) := by decide +kernel
theorem dX1_swapDriver_28 : decode cX1_swapDriver 28 = .ok (.aaload, 1) := by decide +kernel
theorem dX1_swapDriver_29 : decode cX1_swapDriver 29 = .ok (.getfield 120, 3) := by decide +kernel
theorem dX1_swapDriver_32 : decode cX1_swapDriver 32 = .ok (.iload_n 1, 1) := by decide +kernel
theorem dX1_swapDriver_33 : decode cX1_swapDriver 33 = .ok (.if_icmp .ne 13, 3) := by decide +kernel
theorem dX1_swapDriver_36 : decode cX1_swapDriver 36 = .ok (.aload_n 0, 1) := by decide +kernel
theorem dX1_swapDriver_37 : decode cX1_swapDriver 37 = .ok (.aload_n 0, 1) := by decide +kernel
theorem dX1_swapDriver_38 : decode cX1_swapDriver 38 = .ok (.getfield 11, 3) := by decide +kernel
theorem dX1_swapDriver_41 : decode cX1_swapDriver 41 = .ok (.iload_n 2, 1) := by decide +kernel
theorem dX1_swapDriver_42 : decode cX1_swapDriver 42 = .ok (.aaload, 1) := by decide +kernel
theorem dX1_swapDriver_43 : decode cX1_swapDriver 43 = .ok (.invokevirtual 187, 3) := by decide +kernel
theorem dX1_swapDriver_46 : decode cX1_swapDriver 46 = .ok (.iinc 2 1, 3) := by decide +kernel
theorem dX1_swapDriver_49 : decode cX1_swapDriver 49 = .ok (.goto (-47), 3) := by decide +kernel
theorem dX1_swapDriver_52 : decode cX1_swapDriver 52 = .ok (.return_, 1) := by decide +kernel
set_option maxRecDepth 20000 in
theorem ggX1_giveOtherDriver_X1_lowestFitDriver : GoodIn wsX1_giveOtherDriver wsX1_lowestFitDriver := goodIn_r _ [6, 7, 8, 9, 5, 10, 11, 12, 13, 14, 15, 16, 17, 18, 19, 20, 21, 22, 23, 24, 25, 26, 27, 28, 29, 30, 31, 32, 33, 34, 35, 36, 37, 38, 51, 52, 53, 54, 55, 56, 57, 58, 59, 60, 61, 62, 45, 46, 47, 48, 49, 50] (by decide +kernel) (by decide +kernel)
set_option maxRecDepth 20000 in
theorem gX1_giveOtherDriver_X1_lowestFitDriver : GoodIn wsX1_giveOtherDriver (wsV RX1 190 RX1 yX1_lowestFitDriver wsX1_lowestFitDriver) := goodIn_app (goodIn_of _ (by decide +kernel)) ggX1_giveOtherDriver_X1_lowestFitDriver
set_option maxRecDepth 20000 in
theorem ggX1_giveOtherDriver_X0_drop : GoodIn wsX1_giveOtherDriver wsX0_drop := goodIn_r _ [42, 43, 44, 28, 45, 46, 47, 48, 49, 50] (by decide +kernel) (by decide +kernel)
set_option maxRecDepth 20000 in
theorem gX1_giveOtherDriver_X0_drop : GoodIn wsX1_giveOtherDriver (wsV RX1 173 RX0 yX0_drop wsX0_drop) := goodIn_app (goodIn_of _ (by decide +kernel)) ggX1_giveOtherDriver_X0_drop
theorem dX1_giveOtherDriver_0 : decode cX1_giveOtherDriver 0 = .ok (.aload_n 1, 1) := by decide +kernel
theorem dX1_giveOtherDriver_1 : decode cX1_giveOtherDriver 1 = .ok (.iconst (-1), 1) := by decide +kernel
theorem dX1_giveOtherDriver_2 : decode cX1_giveOtherDriver 2 = .ok (.putfield 120, 3) := by decide +kernel
theorem dX1_giveOtherDriver_5 : decode cX1_giveOtherDriver 5 = .ok (.aload_n 0, 1) := by decide +kernel
theorem dX1_giveOtherDriver_6 : decode cX1_giveOtherDriver 6 = .ok (.aload_n 1, 1) := by decide +kernel
theorem dX1_giveOtherDriver_7 : decode cX1_giveOtherDriver 7 = .ok (.invokevirtual 190, 3) := by decide +kernel
theorem dX1_giveOtherDriver_10 : decode cX1_giveOtherDriver 10 = .ok (.istore_n 2, 1) := by decide +kernel
theorem dX1_giveOtherDriver_11 : decode cX1_giveOtherDriver 11 = .ok (.iload_n 2, 1) := by decide +kernel
theorem dX1_giveOtherDriver_12 : decode cX1_giveOtherDriver 12 = .ok (.iconst (-1), 1) := by decide +kernel
theorem dX1_giveOtherDriver_13 : decode cX1_giveOtherDriver 13 = .ok (.if_icmp .ne 11, 3) := by decide +kernel
theorem dX1_giveOtherDriver_16 : decode cX1_giveOtherDriver 16 = .ok (.aload_n 1, 1) := by decide +kernel
theorem dX1_giveOtherDriver_17 : decode cX1_giveOtherDriver 17 = .ok (.iconst 4, 1) := by decide +kernel
theorem dX1_giveOtherDriver_18 : decode cX1_giveOtherDriver 18 = .ok (.invokevirtual 173, 3) := by decide +kernel
theorem dX1_giveOtherDriver_21 : decode cX1_giveOtherDriver 21 = .ok (.goto 8, 3) := by decide +kernel
theorem dX1_giveOtherDriver_24 : decode cX1_giveOtherDriver 24 = .ok (.aload_n 1, 1) := by decide +kernel
theorem dX1_giveOtherDriver_25 : decode cX1_giveOtherDriver 25 = .ok (.iload_n 2, 1) := by decide +kernel
theorem dX1_giveOtherDriver_26 : decode cX1_giveOtherDriver 26 = .ok (.putfield 120, 3) := by decide +kernel
theorem dX1_giveOtherDriver_29 : decode cX1_giveOtherDriver 29 = .ok (.return_, 1) := by decide +kernel
theorem dX1_isUnderWay_0 : decode cX1_isUnderWay 0 = .ok (.iconst 0, 1) := by decide +kernel
theorem dX1_isUnderWay_1 : decode cX1_isUnderWay 1 = .ok (.istore_n 2, 1) := by decide +kernel
theorem dX1_isUnderWay_2 : decode cX1_isUnderWay 2 = .ok (.iload_n 2, 1) := by decide +kernel
theorem dX1_isUnderWay_3 : decode cX1_isUnderWay 3 = .ok (.aload_n 0, 1) := by decide +kernel
theorem dX1_isUnderWay_4 : decode cX1_isUnderWay 4 = .ok (.getfield 39, 3) := by decide +kernel
theorem dX1_isUnderWay_7 : decode cX1_isUnderWay 7 = .ok (.if_icmp .ge 37, 3) := by decide +kernel
theorem dX1_isUnderWay_10 : decode cX1_isUnderWay 10 = .ok (.aload_n 0, 1) := by decide +kernel
theorem dX1_isUnderWay_11 : decode cX1_isUnderWay 11 = .ok (.getfield 11, 3) := by decide +kernel
theorem dX1_isUnderWay_14 : decode cX1_isUnderWay 14 = .ok (.iload_n 2, 1) := by decide +kernel
theorem dX1_isUnderWay_15 : decode cX1_isUnderWay 15 = .ok (.aaload, 1) := by decide +kernel
theorem dX1_isUnderWay_16 : decode cX1_isUnderWay 16 = .ok (.getfield 114, 3) := by decide +kernel
theorem dX1_isUnderWay_19 : decode cX1_isUnderWay 19 = .ok (.iconst 2, 1) := by decide +kernel
theorem dX1_isUnderWay_20 : decode cX1_isUnderWay 20 = .ok (.if_icmp .ne 18, 3) := by decide +kernel
theorem dX1_isUnderWay_23 : decode cX1_isUnderWay 23 = .ok (.aload_n 0, 1) := by decide +kernel
theorem dX1_isUnderWay_24 : decode cX1_isUnderWay 24 = .ok (.getfield 11, 3) := by decide +kernel
theorem dX1_isUnderWay_27 : decode cX1_isUnderWay 27 = .ok (.iload_n 2, 1) := by decide +kernel
theorem dX1_isUnderWay_28 : decode cX1_isUnderWay 28 = .ok (.aaload, 1) := by decide +kernel
theorem dX1_isUnderWay_29 : decode cX1_isUnderWay 29 = .ok (.getfield 117, 3) := by decide +kernel
theorem dX1_isUnderWay_32 : decode cX1_isUnderWay 32 = .ok (.iload_n 1, 1) := by decide +kernel
theorem dX1_isUnderWay_33 : decode cX1_isUnderWay 33 = .ok (.if_icmp .ne 5, 3) := by decide +kernel
theorem dX1_isUnderWay_36 : decode cX1_isUnderWay 36 = .ok (.iconst 1, 1) := by decide +kernel
theorem dX1_isUnderWay_37 : decode cX1_isUnderWay 37 = .ok (.ireturn, 1) := by decide +kernel
theorem dX1_isUnderWay_38 : decode cX1_isUnderWay 38 = .ok (.iinc 2 1, 3) := by decide +kernel
theorem dX1_isUnderWay_41 : decode cX1_isUnderWay 41 = .ok (.goto (-39), 3) := by decide +kernel
theorem dX1_isUnderWay_44 : decode cX1_isUnderWay 44 = .ok (.iconst 0, 1) := by decide +kernel
theorem dX1_isUnderWay_45 : decode cX1_isUnderWay 45 = .ok (.ireturn, 1) := by decide +kernel
theorem dX1_unplug_0 : decode cX1_unplug 0 = .ok (.iconst 0, 1) := by decide +kernel
theorem dX1_unplug_1 : decode cX1_unplug 1 = .ok (.istore_n 2, 1) := by decide +kernel
theorem dX1_unplug_2 : decode cX1_unplug 2 = .ok (.iload_n 2, 1) := by decide +kernel
theorem dX1_unplug_3 : decode cX1_unplug 3 = .ok (.iconst 2, 1) := by decide +kernel
theorem dX1_unplug_4 : decode cX1_unplug 4 = .ok (.if_icmp .ge 26, 3) := by decide +kernel
theorem dX1_unplug_7 : decode cX1_unplug 7 = .ok (.aload_n 0, 1) := by decide +kernel
theorem dX1_unplug_8 : decode cX1_unplug 8 = .ok (.getfield 26, 3) := by decide +kernel
theorem dX1_unplug_11 : decode cX1_unplug 11 = .ok (.iload_n 2, 1) := by decide +kernel
theorem dX1_unplug_12 : decode cX1_unplug 12 = .ok (.iaload, 1) := by decide +kernel
theorem dX1_unplug_13 : decode cX1_unplug 13 = .ok (.iload_n 1, 1) := by decide +kernel
theorem dX1_unplug_14 : decode cX1_unplug 14 = .ok (.if_icmp .ne 10, 3) := by decide +kernel
theorem dX1_unplug_17 : decode cX1_unplug 17 = .ok (.aload_n 0, 1) := by decide +kernel
theorem dX1_unplug_18 : decode cX1_unplug 18 = .ok (.getfield 26, 3) := by decide +kernel
theorem dX1_unplug_21 : decode cX1_unplug 21 = .ok (.iload_n 2, 1) := by decide +kernel
theorem dX1_unplug_22 : decode cX1_unplug 22 = .ok (.iconst (-1), 1) := by decide +kernel
theorem dX1_unplug_23 : decode cX1_unplug 23 = .ok (.iastore, 1) := by decide +kernel
theorem dX1_unplug_24 : decode cX1_unplug 24 = .ok (.iinc 2 1, 3) := by decide +kernel
theorem dX1_unplug_27 : decode cX1_unplug 27 = .ok (.goto (-25), 3) := by decide +kernel
theorem dX1_unplug_30 : decode cX1_unplug 30 = .ok (.return_, 1) := by decide +kernel
set_option maxRecDepth 20000 in
theorem ggX1_sendOut_X1_unplug : GoodIn wsX1_sendOut wsX1_unplug := goodIn_r _ [6, 7, 8, 9, 10, 11, 12, 13, 14, 15, 16, 17, 18, 19] (by decide +kernel) (by decide +kernel)
set_option maxRecDepth 20000 in
theorem gX1_sendOut_X1_unplug : GoodIn wsX1_sendOut (wsV RX1 87 RX1 yX1_unplug wsX1_unplug) := goodIn_app (goodIn_of _ (by decide +kernel)) ggX1_sendOut_X1_unplug
theorem dX1_sendOut_0 : decode cX1_sendOut 0 = .ok (.iload_n 1, 1) := by decide +kernel
theorem dX1_sendOut_1 : decode cX1_sendOut 1 = .ok (.ifCond .lt 23, 3) := by decide +kernel
theorem dX1_sendOut_4 : decode cX1_sendOut 4 = .ok (.iload_n 1, 1) := by decide +kernel
theorem dX1_sendOut_5 : decode cX1_sendOut 5 = .ok (.iconst 5, 1) := by decide +kernel
theorem dX1_sendOut_6 : decode cX1_sendOut 6 = .ok (.if_icmp .ge 18, 3) := by decide +kernel
theorem dX1_sendOut_9 : decode cX1_sendOut 9 = .ok (.aload_n 0, 1) := by decide +kernel
theorem dX1_sendOut_10 : decode cX1_sendOut 10 = .ok (.getfield 15, 3) := by decide +kernel
theorem dX1_sendOut_13 : decode cX1_sendOut 13 = .ok (.iload_n 1, 1) := by decide +kernel
theorem dX1_sendOut_14 : decode cX1_sendOut 14 = .ok (.dup2, 1) := by decide +kernel
theorem dX1_sendOut_15 : decode cX1_sendOut 15 = .ok (.iaload, 1) := by decide +kernel
theorem dX1_sendOut_16 : decode cX1_sendOut 16 = .ok (.iload_n 2, 1) := by decide +kernel
theorem dX1_sendOut_17 : decode cX1_sendOut 17 = .ok (.isub, 1) := by decide +kernel
theorem dX1_sendOut_18 : decode cX1_sendOut 18 = .ok (.iastore, 1) := by decide +kernel
theorem dX1_sendOut_19 : decode cX1_sendOut 19 = .ok (.aload_n 0, 1) := by decide +kernel
theorem dX1_sendOut_20 : decode cX1_sendOut 20 = .ok (.iload_n 1, 1) := by decide +kernel
theorem dX1_sendOut_21 : decode cX1_sendOut 21 = .ok (.invokevirtual 87, 3) := by decide +kernel
theorem dX1_sendOut_24 : decode cX1_sendOut 24 = .ok (.return_, 1) := by decide +kernel
set_option maxRecDepth 20000 in
theorem ggX1_passMinute_X1_loadAtChargers : GoodIn wsX1_passMinute wsX1_loadAtChargers := goodIn_r _ [6, 7, 8, 44, 45, 46, 47, 48, 49, 50, 51, 52, 53, 54, 55] (by decide +kernel) (by decide +kernel)
set_option maxRecDepth 20000 in
theorem gX1_passMinute_X1_loadAtChargers : GoodIn wsX1_passMinute (wsV RX1 193 RX1 yX1_loadAtChargers wsX1_loadAtChargers) := goodIn_app (goodIn_of _ (by decide +kernel)) ggX1_passMinute_X1_loadAtChargers
set_option maxRecDepth 20000 in
theorem ggX1_passMinute_X1_endRuns : GoodIn wsX1_passMinute wsX1_endRuns := goodIn_r _ [12, 13, 14, 15, 16, 1, 44, 45, 46, 47, 48, 49, 50, 51, 52, 53, 54, 55, 56, 57, 58, 59, 60, 61] (by decide +kernel) (by decide +kernel)
set_option maxRecDepth 20000 in
theorem gX1_passMinute_X1_endRuns : GoodIn wsX1_passMinute (wsV RX1 196 RX1 yX1_endRuns wsX1_endRuns) := goodIn_app (goodIn_of _ (by decide +kernel)) ggX1_passMinute_X1_endRuns
set_option maxRecDepth 20000 in
theorem ggX1_passMinute_X1_startRuns : GoodIn wsX1_passMinute wsX1_startRuns := goodIn_r _ [20, 13, 14, 21, 1, 22, 23, 24, 5, 25, 15, 26, 27, 28, 29, 30, 31, 8, 32, 33, 34, 35, 7, 36, 37, 38, 39, 40, 41, 42, 43, 44, 45, 46, 47, 48, 49, 50, 51, 52, 53, 54, 55, 56, 57, 58, 59, 60, 61] (by decide +kernel) (by decide +kernel)
set_option maxRecDepth 20000 in
theorem gX1_passMinute_X1_startRuns : GoodIn wsX1_passMinute (wsV RX1 199 RX1 yX1_startRuns wsX1_startRuns) := goodIn_app (goodIn_of _ (by decide +kernel)) ggX1_passMinute_X1_startRuns
theorem dX1_passMinute_0 : decode cX1_passMinute 0 = .ok (.aload_n 0, 1) := by decide +kernel
theorem dX1_passMinute_1 : decode cX1_passMinute 1 = .ok (.invokevirtual 193, 3) := by decide +kernel
theorem dX1_passMinute_4 : decode cX1_passMinute 4 = .ok (.aload_n 0, 1) := by decide +kernel
theorem dX1_passMinute_5 : decode cX1_passMinute 5 = .ok (.dup, 1) := by decide +kernel
theorem dX1_passMinute_6 : decode cX1_passMinute 6 = .ok (.getfield 35, 3) := by decide +kernel
theorem dX1_passMinute_9 : decode cX1_passMinute 9 = .ok (.iconst 1, 1) := by decide +kernel
theorem dX1_passMinute_10 : decode cX1_passMinute 10 = .ok (.iadd, 1) := by decide +kernel
theorem dX1_passMinute_11 : decode cX1_passMinute 11 = .ok (.putfield 35, 3) := by decide +kernel
theorem dX1_passMinute_14 : decode cX1_passMinute 14 = .ok (.aload_n 0, 1) := by decide +kernel
theorem dX1_passMinute_15 : decode cX1_passMinute 15 = .ok (.invokevirtual 196, 3) := by decide +kernel
theorem dX1_passMinute_18 : decode cX1_passMinute 18 = .ok (.aload_n 0, 1) := by decide +kernel
theorem dX1_passMinute_19 : decode cX1_passMinute 19 = .ok (.invokevirtual 199, 3) := by decide +kernel
theorem dX1_passMinute_22 : decode cX1_passMinute 22 = .ok (.return_, 1) := by decide +kernel
theorem dX1_loadAtChargers_0 : decode cX1_loadAtChargers 0 = .ok (.iconst 0, 1) := by decide +kernel
theorem dX1_loadAtChargers_1 : decode cX1_loadAtChargers 1 = .ok (.istore_n 1, 1) := by decide +kernel
theorem dX1_loadAtChargers_2 : decode cX1_loadAtChargers 2 = .ok (.iload_n 1, 1) := by decide +kernel
theorem dX1_loadAtChargers_3 : decode cX1_loadAtChargers 3 = .ok (.iconst 2, 1) := by decide +kernel
theorem dX1_loadAtChargers_4 : decode cX1_loadAtChargers 4 = .ok (.if_icmp .ge 46, 3) := by decide +kernel
theorem dX1_loadAtChargers_7 : decode cX1_loadAtChargers 7 = .ok (.aload_n 0, 1) := by decide +kernel
theorem dX1_loadAtChargers_8 : decode cX1_loadAtChargers 8 = .ok (.getfield 26, 3) := by decide +kernel
theorem dX1_loadAtChargers_11 : decode cX1_loadAtChargers 11 = .ok (.iload_n 1, 1) := by decide +kernel
theorem dX1_loadAtChargers_12 : decode cX1_loadAtChargers 12 = .ok (.iaload, 1) := by decide +kernel
theorem dX1_loadAtChargers_13 : decode cX1_loadAtChargers 13 = .ok (.istore_n 2, 1) := by decide +kernel
theorem dX1_loadAtChargers_14 : decode cX1_loadAtChargers 14 = .ok (.iload_n 2, 1) := by decide +kernel
theorem dX1_loadAtChargers_15 : decode cX1_loadAtChargers 15 = .ok (.ifCond .lt 29, 3) := by decide +kernel
theorem dX1_loadAtChargers_18 : decode cX1_loadAtChargers 18 = .ok (.iload_n 2, 1) := by decide +kernel
theorem dX1_loadAtChargers_19 : decode cX1_loadAtChargers 19 = .ok (.iconst 5, 1) := by decide +kernel
theorem dX1_loadAtChargers_20 : decode cX1_loadAtChargers 20 = .ok (.if_icmp .ge 24, 3) := by decide +kernel
theorem dX1_loadAtChargers_23 : decode cX1_loadAtChargers 23 = .ok (.aload_n 0, 1) := by decide +kernel
theorem dX1_loadAtChargers_24 : decode cX1_loadAtChargers 24 = .ok (.getfield 15, 3) := by decide +kernel
theorem dX1_loadAtChargers_27 : decode cX1_loadAtChargers 27 = .ok (.iload_n 2, 1) := by decide +kernel
theorem dX1_loadAtChargers_28 : decode cX1_loadAtChargers 28 = .ok (.iaload, 1) := by decide +kernel
theorem dX1_loadAtChargers_29 : decode cX1_loadAtChargers 29 = .ok (.bipush 100, 2) := by decide +kernel
theorem dX1_loadAtChargers_31 : decode cX1_loadAtChargers 31 = .ok (.if_icmp .ge 13, 3) := by decide +kernel
theorem dX1_loadAtChargers_34 : decode cX1_loadAtChargers 34 = .ok (.aload_n 0, 1) := by decide +kernel
theorem dX1_loadAtChargers_35 : decode cX1_loadAtChargers 35 = .ok (.getfield 15, 3) := by decide +kernel
theorem dX1_loadAtChargers_38 : decode cX1_loadAtChargers 38 = .ok (.iload_n 2, 1) := by decide +kernel
theorem dX1_loadAtChargers_39 : decode cX1_loadAtChargers 39 = .ok (.dup2, 1) := by decide +kernel
theorem dX1_loadAtChargers_40 : decode cX1_loadAtChargers 40 = .ok (.iaload, 1) := by decide +kernel
theorem dX1_loadAtChargers_41 : decode cX1_loadAtChargers 41 = .ok (.iconst 1, 1) := by decide +kernel
theorem dX1_loadAtChargers_42 : decode cX1_loadAtChargers 42 = .ok (.iadd, 1) := by decide +kernel
theorem dX1_loadAtChargers_43 : decode cX1_loadAtChargers 43 = .ok (.iastore, 1) := by decide +kernel
theorem dX1_loadAtChargers_44 : decode cX1_loadAtChargers 44 = .ok (.iinc 1 1, 3) := by decide +kernel
theorem dX1_loadAtChargers_47 : decode cX1_loadAtChargers 47 = .ok (.goto (-45), 3) := by decide +kernel
theorem dX1_loadAtChargers_50 : decode cX1_loadAtChargers 50 = .ok (.return_, 1) := by decide +kernel
theorem dX1_endRuns_0 : decode cX1_endRuns 0 = .ok (.iconst 0, 1) := by decide +kernel
theorem dX1_endRuns_1 : decode cX1_endRuns 1 = .ok (.istore_n 1, 1) := by decide +kernel
theorem dX1_endRuns_2 : decode cX1_endRuns 2 = .ok (.iload_n 1, 1) := by decide +kernel
theorem dX1_endRuns_3 : decode cX1_endRuns 3 = .ok (.aload_n 0, 1) := by decide +kernel
theorem dX1_endRuns_4 : decode cX1_endRuns 4 = .ok (.getfield 39, 3) := by decide +kernel
theorem dX1_endRuns_7 : decode cX1_endRuns 7 = .ok (.if_icmp .ge 48, 3) := by decide +kernel
theorem dX1_endRuns_10 : decode cX1_endRuns 10 = .ok (.aload_n 0, 1) := by decide +kernel
theorem dX1_endRuns_11 : decode cX1_endRuns 11 = .ok (.getfield 11, 3) := by decide +kernel
theorem dX1_endRuns_14 : decode cX1_endRuns 14 = .ok (.iload_n 1, 1) := by decide +kernel
theorem dX1_endRuns_15 : decode cX1_endRuns 15 = .ok (.aaload, 1) := by decide +kernel
theorem dX1_endRuns_16 : decode cX1_endRuns 16 = .ok (.getfield 114, 3) := by decide +kernel
theorem dX1_endRuns_19 : decode cX1_endRuns 19 = .ok (.iconst 2, 1) := by decide +kernel
theorem dX1_endRuns_20 : decode cX1_endRuns 20 = .ok (.if_icmp .ne 29, 3) := by decide +kernel
theorem dX1_endRuns_23 : decode cX1_endRuns 23 = .ok (.aload_n 0, 1) := by decide +kernel
theorem dX1_endRuns_24 : decode cX1_endRuns 24 = .ok (.getfield 11, 3) := by decide +kernel
theorem dX1_endRuns_27 : decode cX1_endRuns 27 = .ok (.iload_n 1, 1) := by decide +kernel
theorem dX1_endRuns_28 : decode cX1_endRuns 28 = .ok (.aaload, 1) := by decide +kernel
theorem dX1_endRuns_29 : decode cX1_endRuns 29 = .ok (.getfield 202, 3) := by decide +kernel
theorem dX1_endRuns_32 : decode cX1_endRuns 32 = .ok (.aload_n 0, 1) := by decide +kernel
theorem dX1_endRuns_33 : decode cX1_endRuns 33 = .ok (.getfield 35, 3) := by decide +kernel
theorem dX1_endRuns_36 : decode cX1_endRuns 36 = .ok (.if_icmp .ne 13, 3) := by decide +kernel
theorem dX1_endRuns_39 : decode cX1_endRuns 39 = .ok (.aload_n 0, 1) := by decide +kernel
theorem dX1_endRuns_40 : decode cX1_endRuns 40 = .ok (.getfield 11, 3) := by decide +kernel
theorem dX1_endRuns_43 : decode cX1_endRuns 43 = .ok (.iload_n 1, 1) := by decide +kernel
theorem dX1_endRuns_44 : decode cX1_endRuns 44 = .ok (.aaload, 1) := by decide +kernel
theorem dX1_endRuns_45 : decode cX1_endRuns 45 = .ok (.iconst 3, 1) := by decide +kernel
theorem dX1_endRuns_46 : decode cX1_endRuns 46 = .ok (.putfield 114, 3) := by decide +kernel
theorem dX1_endRuns_49 : decode cX1_endRuns 49 = .ok (.iinc 1 1, 3) := by decide +kernel
theorem dX1_endRuns_52 : decode cX1_endRuns 52 = .ok (.goto (-50), 3) := by decide +kernel
theorem dX1_endRuns_55 : decode cX1_endRuns 55 = .ok (.return_, 1) := by decide +kernel
set_option maxRecDepth 20000 in
theorem ggX1_startRuns_X1_startRun : GoodIn wsX1_startRuns wsX1_startRun := goodIn_r _ [9, 10, 11, 12, 13, 14, 15, 8, 16, 17, 18, 19, 20, 21, 22, 23, 24, 25, 26, 27, 28, 29, 30, 43, 44, 45, 46, 47, 48, 31, 32, 33, 34, 35, 36, 37, 38, 39, 40, 41, 42] (by decide +kernel) (by decide +kernel)
set_option maxRecDepth 20000 in
theorem gX1_startRuns_X1_startRun : GoodIn wsX1_startRuns (wsV RX1 205 RX1 yX1_startRun wsX1_startRun) := goodIn_app (goodIn_of _ (by decide +kernel)) ggX1_startRuns_X1_startRun
theorem dX1_startRuns_0 : decode cX1_startRuns 0 = .ok (.iconst 0, 1) := by decide +kernel
theorem dX1_startRuns_1 : decode cX1_startRuns 1 = .ok (.istore_n 1, 1) := by decide +kernel
theorem dX1_startRuns_2 : decode cX1_startRuns 2 = .ok (.iload_n 1, 1) := by decide +kernel
theorem dX1_startRuns_3 : decode cX1_startRuns 3 = .ok (.aload_n 0, 1) := by decide +kernel
theorem dX1_startRuns_4 : decode cX1_startRuns 4 = .ok (.getfield 39, 3) := by decide +kernel
theorem dX1_startRuns_7 : decode cX1_startRuns 7 = .ok (.if_icmp .ge 35, 3) := by decide +kernel
theorem dX1_startRuns_10 : decode cX1_startRuns 10 = .ok (.aload_n 0, 1) := by decide +kernel
theorem dX1_startRuns_11 : decode cX1_startRuns 11 = .ok (.getfield 11, 3) := by decide +kernel
theorem dX1_startRuns_14 : decode cX1_startRuns 14 = .ok (.iload_n 1, 1) := by decide +kernel
theorem dX1_startRuns_15 : decode cX1_startRuns 15 = .ok (.aaload, 1) := by decide +kernel
theorem dX1_startRuns_16 : decode cX1_startRuns 16 = .ok (.getfield 140, 3) := by decide +kernel
theorem dX1_startRuns_19 : decode cX1_startRuns 19 = .ok (.aload_n 0, 1) := by decide +kernel
theorem dX1_startRuns_20 : decode cX1_startRuns 20 = .ok (.getfield 35, 3) := by decide +kernel
theorem dX1_startRuns_23 : decode cX1_startRuns 23 = .ok (.if_icmp .ne 13, 3) := by decide +kernel
theorem dX1_startRuns_26 : decode cX1_startRuns 26 = .ok (.aload_n 0, 1) := by decide +kernel
theorem dX1_startRuns_27 : decode cX1_startRuns 27 = .ok (.aload_n 0, 1) := by decide +kernel
theorem dX1_startRuns_28 : decode cX1_startRuns 28 = .ok (.getfield 11, 3) := by decide +kernel
theorem dX1_startRuns_31 : decode cX1_startRuns 31 = .ok (.iload_n 1, 1) := by decide +kernel
theorem dX1_startRuns_32 : decode cX1_startRuns 32 = .ok (.aaload, 1) := by decide +kernel
theorem dX1_startRuns_33 : decode cX1_startRuns 33 = .ok (.invokevirtual 205, 3) := by decide +kernel
theorem dX1_startRuns_36 : decode cX1_startRuns 36 = .ok (.iinc 1 1, 3) := by decide +kernel
theorem dX1_startRuns_39 : decode cX1_startRuns 39 = .ok (.goto (-37), 3) := by decide +kernel
theorem dX1_startRuns_42 : decode cX1_startRuns 42 = .ok (.return_, 1) := by decide +kernel
set_option maxRecDepth 20000 in
theorem ggX1_startRun_X1_sendOut : GoodIn wsX1_startRun wsX1_sendOut := goodIn_r _ [8, 9, 10, 11, 12, 7, 13, 14, 29, 30, 31, 32, 33, 34, 35, 36, 37, 38, 39, 40] (by decide +kernel) (by decide +kernel)
set_option maxRecDepth 20000 in
theorem gX1_startRun_X1_sendOut : GoodIn wsX1_startRun (wsV RX1 184 RX1 yX1_sendOut wsX1_sendOut) := goodIn_app (goodIn_of _ (by decide +kernel)) ggX1_startRun_X1_sendOut
set_option maxRecDepth 20000 in
theorem ggX1_startRun_X0_drop : GoodIn wsX1_startRun wsX0_drop := goodIn_r _ [19, 20, 21, 22, 23, 24, 25, 26, 27, 28] (by decide +kernel) (by decide +kernel)
set_option maxRecDepth 20000 in
theorem gX1_startRun_X0_drop : GoodIn wsX1_startRun (wsV RX1 173 RX0 yX0_drop wsX0_drop) := goodIn_app (goodIn_of _ (by decide +kernel)) ggX1_startRun_X0_drop
theorem dX1_startRun_0 : decode cX1_startRun 0 = .ok (.aload_n 1, 1) := by decide +kernel
theorem dX1_startRun_1 : decode cX1_startRun 1 = .ok (.getfield 114, 3) := by decide +kernel
theorem dX1_startRun_4 : decode cX1_startRun 4 = .ok (.iconst 1, 1) := by decide +kernel
theorem dX1_startRun_5 : decode cX1_startRun 5 = .ok (.if_icmp .ne 23, 3) := by decide +kernel
theorem dX1_startRun_8 : decode cX1_startRun 8 = .ok (.aload_n 1, 1) := by decide +kernel
theorem dX1_startRun_9 : decode cX1_startRun 9 = .ok (.iconst 2, 1) := by decide +kernel
theorem dX1_startRun_10 : decode cX1_startRun 10 = .ok (.putfield 114, 3) := by decide +kernel
theorem dX1_startRun_13 : decode cX1_startRun 13 = .ok (.aload_n 0, 1) := by decide +kernel
theorem dX1_startRun_14 : decode cX1_startRun 14 = .ok (.aload_n 1, 1) := by decide +kernel
theorem dX1_startRun_15 : decode cX1_startRun 15 = .ok (.getfield 117, 3) := by decide +kernel
theorem dX1_startRun_18 : decode cX1_startRun 18 = .ok (.aload_n 1, 1) := by decide +kernel
theorem dX1_startRun_19 : decode cX1_startRun 19 = .ok (.getfield 150, 3) := by decide +kernel
theorem dX1_startRun_22 : decode cX1_startRun 22 = .ok (.invokevirtual 184, 3) := by decide +kernel
theorem dX1_startRun_25 : decode cX1_startRun 25 = .ok (.goto 15, 3) := by decide +kernel
theorem dX1_startRun_28 : decode cX1_startRun 28 = .ok (.aload_n 1, 1) := by decide +kernel
theorem dX1_startRun_29 : decode cX1_startRun 29 = .ok (.getfield 114, 3) := by decide +kernel
theorem dX1_startRun_32 : decode cX1_startRun 32 = .ok (.ifCond .ne 8, 3) := by decide +kernel
theorem dX1_startRun_35 : decode cX1_startRun 35 = .ok (.aload_n 1, 1) := by decide +kernel
theorem dX1_startRun_36 : decode cX1_startRun 36 = .ok (.iconst 4, 1) := by decide +kernel
theorem dX1_startRun_37 : decode cX1_startRun 37 = .ok (.invokevirtual 173, 3) := by decide +kernel
theorem dX1_startRun_40 : decode cX1_startRun 40 = .ok (.return_, 1) := by decide +kernel
theorem dL_leader_0 : decode cL_leader 0 = .ok (.aload_n 0, 1) := by decide +kernel
theorem dL_leader_1 : decode cL_leader 1 = .ok (.iconst 0, 1) := by decide +kernel
theorem dL_leader_2 : decode cL_leader 2 = .ok (.iaload, 1) := by decide +kernel
theorem dL_leader_3 : decode cL_leader 3 = .ok (.aload_n 0, 1) := by decide +kernel
theorem dL_leader_4 : decode cL_leader 4 = .ok (.iconst 4, 1) := by decide +kernel
theorem dL_leader_5 : decode cL_leader 5 = .ok (.iaload, 1) := by decide +kernel
theorem dL_leader_6 : decode cL_leader 6 = .ok (.if_icmp .ge 11, 3) := by decide +kernel
theorem dL_leader_9 : decode cL_leader 9 = .ok (.aload_n 0, 1) := by decide +kernel
theorem dL_leader_10 : decode cL_leader 10 = .ok (.iconst 3, 1) := by decide +kernel
