theorem dX0_init_0 : decode cX0_init 0 = .ok (.aload_n 0, 1) := by decide +kernel
theorem dX0_init_1 : decode cX0_init 1 = .ok (.invokespecial 3, 3) := by decide +kernel
theorem dX0_init_4 : decode cX0_init 4 = .ok (.aload_n 0, 1) := by decide +kernel
theorem dX0_init_5 : decode cX0_init 5 = .ok (.iconst 0, 1) := by decide +kernel
theorem dX0_init_6 : decode cX0_init 6 = .ok (.putfield 9, 3) := by decide +kernel
theorem dX0_init_9 : decode cX0_init 9 = .ok (.aload_n 0, 1) := by decide +kernel
theorem dX0_init_10 : decode cX0_init 10 = .ok (.iconst (-1), 1) := by decide +kernel
theorem dX0_init_11 : decode cX0_init 11 = .ok (.putfield 15, 3) := by decide +kernel
theorem dX0_init_14 : decode cX0_init 14 = .ok (.aload_n 0, 1) := by decide +kernel
theorem dX0_init_15 : decode cX0_init 15 = .ok (.iconst (-1), 1) := by decide +kernel
theorem dX0_init_16 : decode cX0_init 16 = .ok (.putfield 18, 3) := by decide +kernel
theorem dX0_init_19 : decode cX0_init 19 = .ok (.return_, 1) := by decide +kernel
theorem dX0_tell_0 : decode cX0_tell 0 = .ok (.aload_n 0, 1) := by decide +kernel
theorem dX0_tell_1 : decode cX0_tell 1 = .ok (.iload_n 1, 1) := by decide +kernel
theorem dX0_tell_2 : decode cX0_tell 2 = .ok (.putfield 21, 3) := by decide +kernel
theorem dX0_tell_5 : decode cX0_tell 5 = .ok (.aload_n 0, 1) := by decide +kernel
theorem dX0_tell_6 : decode cX0_tell 6 = .ok (.iload_n 1, 1) := by decide +kernel
theorem dX0_tell_7 : decode cX0_tell 7 = .ok (.iload_n 2, 1) := by decide +kernel
theorem dX0_tell_8 : decode cX0_tell 8 = .ok (.iadd, 1) := by decide +kernel
theorem dX0_tell_9 : decode cX0_tell 9 = .ok (.putfield 24, 3) := by decide +kernel
theorem dX0_tell_12 : decode cX0_tell 12 = .ok (.aload_n 0, 1) := by decide +kernel
theorem dX0_tell_13 : decode cX0_tell 13 = .ok (.iload_n 3, 1) := by decide +kernel
theorem dX0_tell_14 : decode cX0_tell 14 = .ok (.putfield 27, 3) := by decide +kernel
theorem dX0_tell_17 : decode cX0_tell 17 = .ok (.return_, 1) := by decide +kernel
theorem dX0_give_0 : decode cX0_give 0 = .ok (.aload_n 0, 1) := by decide +kernel
theorem dX0_give_1 : decode cX0_give 1 = .ok (.iconst 1, 1) := by decide +kernel
theorem dX0_give_2 : decode cX0_give 2 = .ok (.putfield 9, 3) := by decide +kernel
theorem dX0_give_5 : decode cX0_give 5 = .ok (.aload_n 0, 1) := by decide +kernel
theorem dX0_give_6 : decode cX0_give 6 = .ok (.iload_n 1, 1) := by decide +kernel
theorem dX0_give_7 : decode cX0_give 7 = .ok (.putfield 15, 3) := by decide +kernel
theorem dX0_give_10 : decode cX0_give 10 = .ok (.aload_n 0, 1) := by decide +kernel
theorem dX0_give_11 : decode cX0_give 11 = .ok (.iload_n 2, 1) := by decide +kernel
theorem dX0_give_12 : decode cX0_give 12 = .ok (.putfield 18, 3) := by decide +kernel
theorem dX0_give_15 : decode cX0_give 15 = .ok (.return_, 1) := by decide +kernel
theorem dX0_drop_0 : decode cX0_drop 0 = .ok (.aload_n 0, 1) := by decide +kernel
theorem dX0_drop_1 : decode cX0_drop 1 = .ok (.iload_n 1, 1) := by decide +kernel
theorem dX0_drop_2 : decode cX0_drop 2 = .ok (.putfield 9, 3) := by decide +kernel
theorem dX0_drop_5 : decode cX0_drop 5 = .ok (.aload_n 0, 1) := by decide +kernel
theorem dX0_drop_6 : decode cX0_drop 6 = .ok (.iconst (-1), 1) := by decide +kernel
theorem dX0_drop_7 : decode cX0_drop 7 = .ok (.putfield 15, 3) := by decide +kernel
theorem dX0_drop_10 : decode cX0_drop 10 = .ok (.aload_n 0, 1) := by decide +kernel
theorem dX0_drop_11 : decode cX0_drop 11 = .ok (.iconst (-1), 1) := by decide +kernel
theorem dX0_drop_12 : decode cX0_drop 12 = .ok (.putfield 18, 3) := by decide +kernel
theorem dX0_drop_15 : decode cX0_drop 15 = .ok (.return_, 1) := by decide +kernel
theorem dX0_holds_0 : decode cX0_holds 0 = .ok (.aload_n 0, 1) := by decide +kernel
theorem dX0_holds_1 : decode cX0_holds 1 = .ok (.getfield 15, 3) := by decide +kernel
theorem dX0_holds_4 : decode cX0_holds 4 = .ok (.iload_n 1, 1) := by decide +kernel
theorem dX0_holds_5 : decode cX0_holds 5 = .ok (.if_icmp .ne 23, 3) := by decide +kernel
theorem dX0_holds_8 : decode cX0_holds 8 = .ok (.aload_n 0, 1) := by decide +kernel
theorem dX0_holds_9 : decode cX0_holds 9 = .ok (.getfield 9, 3) := by decide +kernel
theorem dX0_holds_12 : decode cX0_holds 12 = .ok (.iconst 1, 1) := by decide +kernel
theorem dX0_holds_13 : decode cX0_holds 13 = .ok (.if_icmp .eq 11, 3) := by decide +kernel
theorem dX0_holds_16 : decode cX0_holds 16 = .ok (.aload_n 0, 1) := by decide +kernel
theorem dX0_holds_17 : decode cX0_holds 17 = .ok (.getfield 9, 3) := by decide +kernel
theorem dX0_holds_20 : decode cX0_holds 20 = .ok (.iconst 2, 1) := by decide +kernel
theorem dX0_holds_21 : decode cX0_holds 21 = .ok (.if_icmp .ne 7, 3) := by decide +kernel
theorem dX0_holds_24 : decode cX0_holds 24 = .ok (.iconst 1, 1) := by decide +kernel
theorem dX0_holds_25 : decode cX0_holds 25 = .ok (.goto 4, 3) := by decide +kernel
theorem dX0_holds_28 : decode cX0_holds 28 = .ok (.iconst 0, 1) := by decide +kernel
theorem dX0_holds_29 : decode cX0_holds 29 = .ok (.ireturn, 1) := by decide +kernel
set_option maxRecDepth 20000 in
theorem ggX0_isWorkOf_X0_startDay : GoodIn wsX0_isWorkOf wsX0_startDay := goodIn_r _ [6, 7, 8, 9, 10, 11, 12, 13] (by decide +kernel) (by decide +kernel)
set_option maxRecDepth 20000 in
theorem gX0_isWorkOf_X0_startDay : GoodIn wsX0_isWorkOf (wsV RX0 30 RX0 yX0_startDay wsX0_startDay) := goodIn_app (goodIn_of _ (by decide +kernel)) ggX0_isWorkOf_X0_startDay
theorem dX0_isWorkOf_0 : decode cX0_isWorkOf 0 = .ok (.aload_n 0, 1) := by decide +kernel
theorem dX0_isWorkOf_1 : decode cX0_isWorkOf 1 = .ok (.getfield 18, 3) := by decide +kernel
theorem dX0_isWorkOf_4 : decode cX0_isWorkOf 4 = .ok (.iload_n 1, 1) := by decide +kernel
theorem dX0_isWorkOf_5 : decode cX0_isWorkOf 5 = .ok (.if_icmp .ne 15, 3) := by decide +kernel
theorem dX0_isWorkOf_8 : decode cX0_isWorkOf 8 = .ok (.aload_n 0, 1) := by decide +kernel
theorem dX0_isWorkOf_9 : decode cX0_isWorkOf 9 = .ok (.invokevirtual 30, 3) := by decide +kernel
theorem dX0_isWorkOf_12 : decode cX0_isWorkOf 12 = .ok (.iload_n 2, 1) := by decide +kernel
theorem dX0_isWorkOf_13 : decode cX0_isWorkOf 13 = .ok (.if_icmp .ne 7, 3) := by decide +kernel
theorem dX0_isWorkOf_16 : decode cX0_isWorkOf 16 = .ok (.iconst 1, 1) := by decide +kernel
theorem dX0_isWorkOf_17 : decode cX0_isWorkOf 17 = .ok (.goto 4, 3) := by decide +kernel
theorem dX0_isWorkOf_20 : decode cX0_isWorkOf 20 = .ok (.iconst 0, 1) := by decide +kernel
theorem dX0_isWorkOf_21 : decode cX0_isWorkOf 21 = .ok (.ireturn, 1) := by decide +kernel
theorem dX0_meets_0 : decode cX0_meets 0 = .ok (.aload_n 0, 1) := by decide +kernel
theorem dX0_meets_1 : decode cX0_meets 1 = .ok (.getfield 21, 3) := by decide +kernel
theorem dX0_meets_4 : decode cX0_meets 4 = .ok (.aload_n 1, 1) := by decide +kernel
theorem dX0_meets_5 : decode cX0_meets 5 = .ok (.getfield 24, 3) := by decide +kernel
theorem dX0_meets_8 : decode cX0_meets 8 = .ok (.if_icmp .ge 18, 3) := by decide +kernel
theorem dX0_meets_11 : decode cX0_meets 11 = .ok (.aload_n 1, 1) := by decide +kernel
theorem dX0_meets_12 : decode cX0_meets 12 = .ok (.getfield 21, 3) := by decide +kernel
theorem dX0_meets_15 : decode cX0_meets 15 = .ok (.aload_n 0, 1) := by decide +kernel
theorem dX0_meets_16 : decode cX0_meets 16 = .ok (.getfield 24, 3) := by decide +kernel
theorem dX0_meets_19 : decode cX0_meets 19 = .ok (.if_icmp .ge 7, 3) := by decide +kernel
theorem dX0_meets_22 : decode cX0_meets 22 = .ok (.iconst 1, 1) := by decide +kernel
theorem dX0_meets_23 : decode cX0_meets 23 = .ok (.goto 4, 3) := by decide +kernel
theorem dX0_meets_26 : decode cX0_meets 26 = .ok (.iconst 0, 1) := by decide +kernel
theorem dX0_meets_27 : decode cX0_meets 27 = .ok (.ireturn, 1) := by decide +kernel
theorem dX0_isRestedFrom_0 : decode cX0_isRestedFrom 0 = .ok (.aload_n 0, 1) := by decide +kernel
theorem dX0_isRestedFrom_1 : decode cX0_isRestedFrom 1 = .ok (.getfield 24, 3) := by decide +kernel
theorem dX0_isRestedFrom_4 : decode cX0_isRestedFrom 4 = .ok (.bipush 30, 2) := by decide +kernel
theorem dX0_isRestedFrom_6 : decode cX0_isRestedFrom 6 = .ok (.iadd, 1) := by decide +kernel
theorem dX0_isRestedFrom_7 : decode cX0_isRestedFrom 7 = .ok (.aload_n 1, 1) := by decide +kernel
theorem dX0_isRestedFrom_8 : decode cX0_isRestedFrom 8 = .ok (.getfield 21, 3) := by decide +kernel
theorem dX0_isRestedFrom_11 : decode cX0_isRestedFrom 11 = .ok (.if_icmp .le 17, 3) := by decide +kernel
theorem dX0_isRestedFrom_14 : decode cX0_isRestedFrom 14 = .ok (.aload_n 1, 1) := by decide +kernel
theorem dX0_isRestedFrom_15 : decode cX0_isRestedFrom 15 = .ok (.getfield 24, 3) := by decide +kernel
theorem dX0_isRestedFrom_18 : decode cX0_isRestedFrom 18 = .ok (.bipush 30, 2) := by decide +kernel
theorem dX0_isRestedFrom_20 : decode cX0_isRestedFrom 20 = .ok (.iadd, 1) := by decide +kernel
theorem dX0_isRestedFrom_21 : decode cX0_isRestedFrom 21 = .ok (.aload_n 0, 1) := by decide +kernel
theorem dX0_isRestedFrom_22 : decode cX0_isRestedFrom 22 = .ok (.getfield 21, 3) := by decide +kernel
theorem dX0_isRestedFrom_25 : decode cX0_isRestedFrom 25 = .ok (.if_icmp .gt 7, 3) := by decide +kernel
theorem dX0_isRestedFrom_28 : decode cX0_isRestedFrom 28 = .ok (.iconst 1, 1) := by decide +kernel
theorem dX0_isRestedFrom_29 : decode cX0_isRestedFrom 29 = .ok (.goto 4, 3) := by decide +kernel
theorem dX0_isRestedFrom_32 : decode cX0_isRestedFrom 32 = .ok (.iconst 0, 1) := by decide +kernel
theorem dX0_isRestedFrom_33 : decode cX0_isRestedFrom 33 = .ok (.ireturn, 1) := by decide +kernel
theorem dX0_startDay_0 : decode cX0_startDay 0 = .ok (.aload_n 0, 1) := by decide +kernel
theorem dX0_startDay_1 : decode cX0_startDay 1 = .ok (.getfield 21, 3) := by decide +kernel
theorem dX0_startDay_4 : decode cX0_startDay 4 = .ok (.sipush 1440, 3) := by decide +kernel
theorem dX0_startDay_7 : decode cX0_startDay 7 = .ok (.idiv, 1) := by decide +kernel
theorem dX0_startDay_8 : decode cX0_startDay 8 = .ok (.ireturn, 1) := by decide +kernel
theorem dX0_length_0 : decode cX0_length 0 = .ok (.aload_n 0, 1) := by decide +kernel
theorem dX0_length_1 : decode cX0_length 1 = .ok (.getfield 24, 3) := by decide +kernel
theorem dX0_length_4 : decode cX0_length 4 = .ok (.aload_n 0, 1) := by decide +kernel
theorem dX0_length_5 : decode cX0_length 5 = .ok (.getfield 21, 3) := by decide +kernel
theorem dX0_length_8 : decode cX0_length 8 = .ok (.isub, 1) := by decide +kernel
theorem dX0_length_9 : decode cX0_length 9 = .ok (.ireturn, 1) := by decide +kernel
set_option maxRecDepth 20000 in
theorem ggX1_init_X0_init : GoodIn wsX1_init wsX0_init := goodIn_r _ [22, 23, 2, 3, 24, 25, 26, 39, 40, 41, 42, 43, 44] (by decide +kernel) (by decide +kernel)
set_option maxRecDepth 20000 in
theorem gX1_init_X0_init_n51 : GoodIn wsX1_init (wsX0_init) := ggX1_init_X0_init
theorem dX1_init_0 : decode cX1_init 0 = .ok (.aload_n 0, 1) := by decide +kernel
theorem dX1_init_1 : decode cX1_init 1 = .ok (.invokespecial 1, 3) := by decide +kernel
theorem dX1_init_4 : decode cX1_init 4 = .ok (.aload_n 0, 1) := by decide +kernel
theorem dX1_init_5 : decode cX1_init 5 = .ok (.bipush 30, 2) := by decide +kernel
theorem dX1_init_7 : decode cX1_init 7 = .ok (.anewarray 9, 3) := by decide +kernel
theorem dX1_init_10 : decode cX1_init 10 = .ok (.putfield 11, 3) := by decide +kernel
theorem dX1_init_13 : decode cX1_init 13 = .ok (.aload_n 0, 1) := by decide +kernel
theorem dX1_init_14 : decode cX1_init 14 = .ok (.iconst 5, 1) := by decide +kernel
theorem dX1_init_15 : decode cX1_init 15 = .ok (.newarray .int, 2) := by decide +kernel
theorem dX1_init_17 : decode cX1_init 17 = .ok (.putfield 15, 3) := by decide +kernel
theorem dX1_init_20 : decode cX1_init 20 = .ok (.aload_n 0, 1) := by decide +kernel
theorem dX1_init_21 : decode cX1_init 21 = .ok (.iconst 5, 1) := by decide +kernel
theorem dX1_init_22 : decode cX1_init 22 = .ok (.newarray .boolean, 2) := by decide +kernel
theorem dX1_init_24 : decode cX1_init 24 = .ok (.putfield 19, 3) := by decide +kernel
theorem dX1_init_27 : decode cX1_init 27 = .ok (.aload_n 0, 1) := by decide +kernel
theorem dX1_init_28 : decode cX1_init 28 = .ok (.iconst 5, 1) := by decide +kernel
theorem dX1_init_29 : decode cX1_init 29 = .ok (.newarray .boolean, 2) := by decide +kernel
theorem dX1_init_31 : decode cX1_init 31 = .ok (.putfield 23, 3) := by decide +kernel
theorem dX1_init_34 : decode cX1_init 34 = .ok (.aload_n 0, 1) := by decide +kernel
theorem dX1_init_35 : decode cX1_init 35 = .ok (.iconst 2, 1) := by decide +kernel
theorem dX1_init_36 : decode cX1_init 36 = .ok (.newarray .int, 2) := by decide +kernel
theorem dX1_init_38 : decode cX1_init 38 = .ok (.putfield 26, 3) := by decide +kernel
theorem dX1_init_41 : decode cX1_init 41 = .ok (.aload_n 0, 1) := by decide +kernel
theorem dX1_init_42 : decode cX1_init 42 = .ok (.sipush 1000, 3) := by decide +kernel
theorem dX1_init_45 : decode cX1_init 45 = .ok (.newarray .int, 2) := by decide +kernel
theorem dX1_init_47 : decode cX1_init 47 = .ok (.putfield 29, 3) := by decide +kernel
theorem dX1_init_50 : decode cX1_init 50 = .ok (.aload_n 0, 1) := by decide +kernel
theorem dX1_init_51 : decode cX1_init 51 = .ok (.sipush 1000, 3) := by decide +kernel
theorem dX1_init_54 : decode cX1_init 54 = .ok (.newarray .int, 2) := by decide +kernel
theorem dX1_init_56 : decode cX1_init 56 = .ok (.putfield 32, 3) := by decide +kernel
theorem dX1_init_59 : decode cX1_init 59 = .ok (.aload_n 0, 1) := by decide +kernel
theorem dX1_init_60 : decode cX1_init 60 = .ok (.iconst 0, 1) := by decide +kernel
theorem dX1_init_61 : decode cX1_init 61 = .ok (.putfield 35, 3) := by decide +kernel
theorem dX1_init_64 : decode cX1_init 64 = .ok (.aload_n 0, 1) := by decide +kernel
theorem dX1_init_65 : decode cX1_init 65 = .ok (.iconst 0, 1) := by decide +kernel
theorem dX1_init_66 : decode cX1_init 66 = .ok (.putfield 39, 3) := by decide +kernel
theorem dX1_init_69 : decode cX1_init 69 = .ok (.aload_n 0, 1) := by decide +kernel
theorem dX1_init_70 : decode cX1_init 70 = .ok (.iconst 0, 1) := by decide +kernel
theorem dX1_init_71 : decode cX1_init 71 = .ok (.putfield 42, 3) := by decide +kernel
theorem dX1_init_74 : decode cX1_init 74 = .ok (.aload_n 0, 1) := by decide +kernel
theorem dX1_init_75 : decode cX1_init 75 = .ok (.iconst (-1), 1) := by decide +kernel
theorem dX1_init_76 : decode cX1_init 76 = .ok (.putfield 45, 3) := by decide +kernel
theorem dX1_init_79 : decode cX1_init 79 = .ok (.aload_n 0, 1) := by decide +kernel
theorem dX1_init_80 : decode cX1_init 80 = .ok (.iconst 0, 1) := by decide +kernel
theorem dX1_init_81 : decode cX1_init 81 = .ok (.putfield 48, 3) := by decide +kernel
theorem dX1_init_84 : decode cX1_init 84 = .ok (.iconst 0, 1) := by decide +kernel
theorem dX1_init_85 : decode cX1_init 85 = .ok (.istore_n 1, 1) := by decide +kernel
theorem dX1_init_86 : decode cX1_init 86 = .ok (.iload_n 1, 1) := by decide +kernel
theorem dX1_init_87 : decode cX1_init 87 = .ok (.bipush 30, 2) := by decide +kernel
theorem dX1_init_89 : decode cX1_init 89 = .ok (.if_icmp .ge 22, 3) := by decide +kernel
theorem dX1_init_92 : decode cX1_init 92 = .ok (.aload_n 0, 1) := by decide +kernel
theorem dX1_init_93 : decode cX1_init 93 = .ok (.getfield 11, 3) := by decide +kernel
theorem dX1_init_96 : decode cX1_init 96 = .ok (.iload_n 1, 1) := by decide +kernel
theorem dX1_init_97 : decode cX1_init 97 = .ok (.new 9, 3) := by decide +kernel
theorem dX1_init_100 : decode cX1_init 100 = .ok (.dup, 1) := by decide +kernel
theorem dX1_init_101 : decode cX1_init 101 = .ok (.invokespecial 51, 3) := by decide +kernel
theorem dX1_init_104 : decode cX1_init 104 = .ok (.aastore, 1) := by decide +kernel
theorem dX1_init_105 : decode cX1_init 105 = .ok (.iinc 1 1, 3) := by decide +kernel
theorem dX1_init_108 : decode cX1_init 108 = .ok (.goto (-22), 3) := by decide +kernel
theorem dX1_init_111 : decode cX1_init 111 = .ok (.iconst 0, 1) := by decide +kernel
theorem dX1_init_112 : decode cX1_init 112 = .ok (.istore_n 1, 1) := by decide +kernel
theorem dX1_init_113 : decode cX1_init 113 = .ok (.iload_n 1, 1) := by decide +kernel
theorem dX1_init_114 : decode cX1_init 114 = .ok (.iconst 5, 1) := by decide +kernel
theorem dX1_init_115 : decode cX1_init 115 = .ok (.if_icmp .ge 17, 3) := by decide +kernel
theorem dX1_init_118 : decode cX1_init 118 = .ok (.aload_n 0, 1) := by decide +kernel
theorem dX1_init_119 : decode cX1_init 119 = .ok (.getfield 15, 3) := by decide +kernel
theorem dX1_init_122 : decode cX1_init 122 = .ok (.iload_n 1, 1) := by decide +kernel
theorem dX1_init_123 : decode cX1_init 123 = .ok (.bipush 100, 2) := by decide +kernel
theorem dX1_init_125 : decode cX1_init 125 = .ok (.iastore, 1) := by decide +kernel
theorem dX1_init_126 : decode cX1_init 126 = .ok (.iinc 1 1, 3) := by decide +kernel
theorem dX1_init_129 : decode cX1_init 129 = .ok (.goto (-16), 3) := by decide +kernel
theorem dX1_init_132 : decode cX1_init 132 = .ok (.iconst 0, 1) := by decide +kernel
theorem dX1_init_133 : decode cX1_init 133 = .ok (.istore_n 1, 1) := by decide +kernel
theorem dX1_init_134 : decode cX1_init 134 = .ok (.iload_n 1, 1) := by decide +kernel
theorem dX1_init_135 : decode cX1_init 135 = .ok (.iconst 2, 1) := by decide +kernel
theorem dX1_init_136 : decode cX1_init 136 = .ok (.if_icmp .ge 16, 3) := by decide +kernel
theorem dX1_init_139 : decode cX1_init 139 = .ok (.aload_n 0, 1) := by decide +kernel
theorem dX1_init_140 : decode cX1_init 140 = .ok (.getfield 26, 3) := by decide +kernel
theorem dX1_init_143 : decode cX1_init 143 = .ok (.iload_n 1, 1) := by decide +kernel
theorem dX1_init_144 : decode cX1_init 144 = .ok (.iconst (-1), 1) := by decide +kernel
theorem dX1_init_145 : decode cX1_init 145 = .ok (.iastore, 1) := by decide +kernel
theorem dX1_init_146 : decode cX1_init 146 = .ok (.iinc 1 1, 3) := by decide +kernel
theorem dX1_init_149 : decode cX1_init 149 = .ok (.goto (-15), 3) := by decide +kernel
theorem dX1_init_152 : decode cX1_init 152 = .ok (.iconst 0, 1) := by decide +kernel
theorem dX1_init_153 : decode cX1_init 153 = .ok (.istore_n 1, 1) := by decide +kernel
theorem dX1_init_154 : decode cX1_init 154 = .ok (.iload_n 1, 1) := by decide +kernel
theorem dX1_init_155 : decode cX1_init 155 = .ok (.sipush 1000, 3) := by decide +kernel
theorem dX1_init_158 : decode cX1_init 158 = .ok (.if_icmp .ge 16, 3) := by decide +kernel
theorem dX1_init_161 : decode cX1_init 161 = .ok (.aload_n 0, 1) := by decide +kernel
theorem dX1_init_162 : decode cX1_init 162 = .ok (.getfield 32, 3) := by decide +kernel
theorem dX1_init_165 : decode cX1_init 165 = .ok (.iload_n 1, 1) := by decide +kernel
theorem dX1_init_166 : decode cX1_init 166 = .ok (.iconst (-1), 1) := by decide +kernel
theorem dX1_init_167 : decode cX1_init 167 = .ok (.iastore, 1) := by decide +kernel
theorem dX1_init_168 : decode cX1_init 168 = .ok (.iinc 1 1, 3) := by decide +kernel
theorem dX1_init_171 : decode cX1_init 171 = .ok (.goto (-17), 3) := by decide +kernel
theorem dX1_init_174 : decode cX1_init 174 = .ok (.return_, 1) := by decide +kernel
set_option maxRecDepth 20000 in
theorem ggX1_run_X1_requireRange : GoodIn wsX1_run wsX1_requireRange := goodIn_ca (goodIn_r _ [9, 10, 11] (by decide +kernel) (by decide +kernel)) (goodIn_sub (fun _ h => List.mem_cons_of_mem _ (List.mem_append_right _ h)) (by decide +kernel))
set_option maxRecDepth 20000 in
theorem gX1_run_X1_requireRange : GoodIn wsX1_run (va_wsS RX1 52 yX1_requireRange wsX1_requireRange) := goodIn_app (goodIn_of _ (by decide +kernel)) ggX1_run_X1_requireRange
set_option maxRecDepth 20000 in
theorem ggX1_run_X0_tell : GoodIn wsX1_run wsX0_tell := goodIn_r _ [16, 17, 18, 19, 32, 33, 34, 35, 36, 37] (by decide +kernel) (by decide +kernel)
set_option maxRecDepth 20000 in
theorem gX1_run_X0_tell : GoodIn wsX1_run (wsV RX1 63 RX0 yX0_tell wsX0_tell) := goodIn_app (goodIn_of _ (by decide +kernel)) ggX1_run_X0_tell
theorem dX1_run_0 : decode cX1_run 0 = .ok (.iload_n 1, 1) := by decide +kernel
theorem dX1_run_1 : decode cX1_run 1 = .ok (.aload_n 0, 1) := by decide +kernel
theorem dX1_run_2 : decode cX1_run 2 = .ok (.getfield 35, 3) := by decide +kernel
theorem dX1_run_5 : decode cX1_run 5 = .ok (.iconst 1, 1) := by decide +kernel
theorem dX1_run_6 : decode cX1_run 6 = .ok (.iadd, 1) := by decide +kernel
theorem dX1_run_7 : decode cX1_run 7 = .ok (.sipush 20000, 3) := by decide +kernel
theorem dX1_run_10 : decode cX1_run 10 = .ok (.invokestatic 52, 3) := by decide +kernel
theorem dX1_run_13 : decode cX1_run 13 = .ok (.iload_n 2, 1) := by decide +kernel
theorem dX1_run_14 : decode cX1_run 14 = .ok (.iconst 1, 1) := by decide +kernel
theorem dX1_run_15 : decode cX1_run 15 = .ok (.sipush 600, 3) := by decide +kernel
theorem dX1_run_18 : decode cX1_run 18 = .ok (.invokestatic 52, 3) := by decide +kernel
theorem dX1_run_21 : decode cX1_run 21 = .ok (.iload_n 1, 1) := by decide +kernel
theorem dX1_run_22 : decode cX1_run 22 = .ok (.sipush 1440, 3) := by decide +kernel
theorem dX1_run_25 : decode cX1_run 25 = .ok (.irem, 1) := by decide +kernel
theorem dX1_run_26 : decode cX1_run 26 = .ok (.iload_n 2, 1) := by decide +kernel
theorem dX1_run_27 : decode cX1_run 27 = .ok (.iadd, 1) := by decide +kernel
theorem dX1_run_28 : decode cX1_run 28 = .ok (.iconst 1, 1) := by decide +kernel
theorem dX1_run_29 : decode cX1_run 29 = .ok (.sipush 1440, 3) := by decide +kernel
theorem dX1_run_32 : decode cX1_run 32 = .ok (.invokestatic 52, 3) := by decide +kernel
theorem dX1_run_35 : decode cX1_run 35 = .ok (.iload_n 3, 1) := by decide +kernel
theorem dX1_run_36 : decode cX1_run 36 = .ok (.iconst 0, 1) := by decide +kernel
theorem dX1_run_37 : decode cX1_run 37 = .ok (.bipush 100, 2) := by decide +kernel
theorem dX1_run_39 : decode cX1_run 39 = .ok (.invokestatic 52, 3) := by decide +kernel
theorem dX1_run_42 : decode cX1_run 42 = .ok (.aload_n 0, 1) := by decide +kernel
theorem dX1_run_43 : decode cX1_run 43 = .ok (.getfield 39, 3) := by decide +kernel
theorem dX1_run_46 : decode cX1_run 46 = .ok (.bipush 30, 2) := by decide +kernel
theorem dX1_run_48 : decode cX1_run 48 = .ok (.if_icmp .lt 13, 3) := by decide +kernel
theorem dX1_run_51 : decode cX1_run 51 = .ok (.new 56, 3) := by decide +kernel
theorem dX1_run_54 : decode cX1_run 54 = .ok (.dup, 1) := by decide +kernel
theorem dX1_run_55 : decode cX1_run 55 = .ok (.ldc 58, 2) := by decide +kernel
theorem dX1_run_57 : decode cX1_run 57 = .ok (.invokespecial 60, 3) := by decide +kernel
theorem dX1_run_60 : decode cX1_run 60 = .ok (.athrow, 1) := by decide +kernel
theorem dX1_run_61 : decode cX1_run 61 = .ok (.aload_n 0, 1) := by decide +kernel
theorem dX1_run_62 : decode cX1_run 62 = .ok (.getfield 39, 3) := by decide +kernel
theorem dX1_run_65 : decode cX1_run 65 = .ok (.istore 4, 2) := by decide +kernel
theorem dX1_run_67 : decode cX1_run 67 = .ok (.aload_n 0, 1) := by decide +kernel
theorem dX1_run_68 : decode cX1_run 68 = .ok (.getfield 11, 3) := by decide +kernel
theorem dX1_run_71 : decode cX1_run 71 = .ok (.iload 4, 2) := by decide +kernel
theorem dX1_run_73 : decode cX1_run 73 = .ok (.aaload, 1) := by decide +kernel
theorem dX1_run_74 : decode cX1_run 74 = .ok (.iload_n 1, 1) := by decide +kernel
theorem dX1_run_75 : decode cX1_run 75 = .ok (.iload_n 2, 1) := by decide +kernel
theorem dX1_run_76 : decode cX1_run 76 = .ok (.iload_n 3, 1) := by decide +kernel
theorem dX1_run_77 : decode cX1_run 77 = .ok (.invokevirtual 63, 3) := by decide +kernel
theorem dX1_run_80 : decode cX1_run 80 = .ok (.aload_n 0, 1) := by decide +kernel
theorem dX1_run_81 : decode cX1_run 81 = .ok (.dup, 1) := by decide +kernel
theorem dX1_run_82 : decode cX1_run 82 = .ok (.getfield 39, 3) := by decide +kernel
theorem dX1_run_85 : decode cX1_run 85 = .ok (.iconst 1, 1) := by decide +kernel
theorem dX1_run_86 : decode cX1_run 86 = .ok (.iadd, 1) := by decide +kernel
theorem dX1_run_87 : decode cX1_run 87 = .ok (.putfield 39, 3) := by decide +kernel
theorem dX1_run_90 : decode cX1_run 90 = .ok (.iload 4, 2) := by decide +kernel
theorem dX1_run_92 : decode cX1_run 92 = .ok (.ireturn, 1) := by decide +kernel
set_option maxRecDepth 20000 in
theorem ggX1_lead_X1_requireIndex : GoodIn wsX1_lead wsX1_requireIndex := goodIn_ca (goodIn_r _ [7, 8, 9] (by decide +kernel) (by decide +kernel)) (goodIn_sub (fun _ h => List.mem_cons_of_mem _ (List.mem_append_left _ (List.mem_append_right _ h))) (by decide +kernel))
set_option maxRecDepth 20000 in
theorem gX1_lead_X1_requireIndex : GoodIn wsX1_lead (va_wsS RX1 66 yX1_requireIndex wsX1_requireIndex) := goodIn_app (goodIn_of _ (by decide +kernel)) ggX1_lead_X1_requireIndex
set_option maxRecDepth 20000 in
theorem ggX1_lead_X1_requireRange : GoodIn wsX1_lead wsX1_requireRange := goodIn_ca (goodIn_r _ [12, 13, 14] (by decide +kernel) (by decide +kernel)) (goodIn_sub (fun _ h => List.mem_cons_of_mem _ (List.mem_append_right _ h)) (by decide +kernel))
set_option maxRecDepth 20000 in
theorem gX1_lead_X1_requireRange : GoodIn wsX1_lead (va_wsS RX1 52 yX1_requireRange wsX1_requireRange) := goodIn_app (goodIn_of _ (by decide +kernel)) ggX1_lead_X1_requireRange
set_option maxRecDepth 20000 in
theorem ggX1_lead_X1_leader : GoodIn wsX1_lead wsX1_leader := goodIn_r _ [18, 2, 3, 1, 19, 20, 21, 22, 23, 24, 25, 26, 27, 28, 29, 30] (by decide +kernel) (by decide +kernel)
set_option maxRecDepth 20000 in
theorem gX1_lead_X1_leader : GoodIn wsX1_lead (wsV RX1 70 RX1 yX1_leader wsX1_leader) := goodIn_app (goodIn_of _ (by decide +kernel)) ggX1_lead_X1_leader
theorem dX1_lead_0 : decode cX1_lead 0 = .ok (.iload_n 1, 1) := by decide +kernel
theorem dX1_lead_1 : decode cX1_lead 1 = .ok (.iconst 2, 1) := by decide +kernel
theorem dX1_lead_2 : decode cX1_lead 2 = .ok (.invokestatic 66, 3) := by decide +kernel
theorem dX1_lead_5 : decode cX1_lead 5 = .ok (.iload_n 2, 1) := by decide +kernel
theorem dX1_lead_6 : decode cX1_lead 6 = .ok (.iconst 1, 1) := by decide +kernel
theorem dX1_lead_7 : decode cX1_lead 7 = .ok (.sipush 1000, 3) := by decide +kernel
theorem dX1_lead_10 : decode cX1_lead 10 = .ok (.invokestatic 52, 3) := by decide +kernel
theorem dX1_lead_13 : decode cX1_lead 13 = .ok (.aload_n 0, 1) := by decide +kernel
theorem dX1_lead_14 : decode cX1_lead 14 = .ok (.invokevirtual 70, 3) := by decide +kernel
theorem dX1_lead_17 : decode cX1_lead 17 = .ok (.istore_n 3, 1) := by decide +kernel
theorem dX1_lead_18 : decode cX1_lead 18 = .ok (.iload_n 3, 1) := by decide +kernel
theorem dX1_lead_19 : decode cX1_lead 19 = .ok (.iconst (-1), 1) := by decide +kernel
theorem dX1_lead_20 : decode cX1_lead 20 = .ok (.if_icmp .eq 10, 3) := by decide +kernel
theorem dX1_lead_23 : decode cX1_lead 23 = .ok (.iload_n 3, 1) := by decide +kernel
theorem dX1_lead_24 : decode cX1_lead 24 = .ok (.iload_n 1, 1) := by decide +kernel
theorem dX1_lead_25 : decode cX1_lead 25 = .ok (.if_icmp .eq 5, 3) := by decide +kernel
theorem dX1_lead_28 : decode cX1_lead 28 = .ok (.iconst 0, 1) := by decide +kernel
theorem dX1_lead_29 : decode cX1_lead 29 = .ok (.ireturn, 1) := by decide +kernel
theorem dX1_lead_30 : decode cX1_lead 30 = .ok (.aload_n 0, 1) := by decide +kernel
theorem dX1_lead_31 : decode cX1_lead 31 = .ok (.iload_n 1, 1) := by decide +kernel
theorem dX1_lead_32 : decode cX1_lead 32 = .ok (.putfield 45, 3) := by decide +kernel
theorem dX1_lead_35 : decode cX1_lead 35 = .ok (.aload_n 0, 1) := by decide +kernel
theorem dX1_lead_36 : decode cX1_lead 36 = .ok (.aload_n 0, 1) := by decide +kernel
theorem dX1_lead_37 : decode cX1_lead 37 = .ok (.getfield 35, 3) := by decide +kernel
theorem dX1_lead_40 : decode cX1_lead 40 = .ok (.iload_n 2, 1) := by decide +kernel
theorem dX1_lead_41 : decode cX1_lead 41 = .ok (.iadd, 1) := by decide +kernel
theorem dX1_lead_42 : decode cX1_lead 42 = .ok (.putfield 48, 3) := by decide +kernel
theorem dX1_lead_45 : decode cX1_lead 45 = .ok (.iconst 1, 1) := by decide +kernel
theorem dX1_lead_46 : decode cX1_lead 46 = .ok (.ireturn, 1) := by decide +kernel
set_option maxRecDepth 20000 in
theorem ggX1_order_X1_requireIndex : GoodIn wsX1_order wsX1_requireIndex := goodIn_ca (goodIn_r _ [9, 10, 11] (by decide +kernel) (by decide +kernel)) (goodIn_sub (fun _ h => List.mem_cons_of_mem _ (List.mem_append_left _ (List.mem_append_right _ h))) (by decide +kernel))
set_option maxRecDepth 20000 in
theorem gX1_order_X1_requireIndex : GoodIn wsX1_order (va_wsS RX1 66 yX1_requireIndex wsX1_requireIndex) := goodIn_app (goodIn_of _ (by decide +kernel)) ggX1_order_X1_requireIndex
set_option maxRecDepth 20000 in
theorem ggX1_order_X1_requireRange : GoodIn wsX1_order wsX1_requireRange := goodIn_ca (goodIn_r _ [14, 15, 16] (by decide +kernel) (by decide +kernel)) (goodIn_sub (fun _ h => List.mem_cons_of_mem _ (List.mem_append_right _ h)) (by decide +kernel))
set_option maxRecDepth 20000 in
theorem gX1_order_X1_requireRange : GoodIn wsX1_order (va_wsS RX1 52 yX1_requireRange wsX1_requireRange) := goodIn_app (goodIn_of _ (by decide +kernel)) ggX1_order_X1_requireRange
set_option maxRecDepth 20000 in
theorem ggX1_order_X1_leader : GoodIn wsX1_order wsX1_leader := goodIn_r _ [20, 21, 22, 23, 92, 93, 94, 95, 96, 97, 98, 99, 100, 101, 102, 103] (by decide +kernel) (by decide +kernel)
set_option maxRecDepth 20000 in
theorem gX1_order_X1_leader : GoodIn wsX1_order (wsV RX1 70 RX1 yX1_leader wsX1_leader) := goodIn_app (goodIn_of _ (by decide +kernel)) ggX1_order_X1_leader
set_option maxRecDepth 20000 in
theorem ggX1_order_X1_canBeOrdered : GoodIn wsX1_order wsX1_canBeOrdered := goodIn_r _ [27, 28, 29, 21, 30, 31, 32, 8, 33, 34, 35, 36, 3, 5, 37, 38, 39, 40, 41, 42, 43, 44, 45, 46, 47, 48, 49, 50, 51, 52, 53, 54, 55, 56, 57, 58, 59, 60, 61, 62, 63, 64, 65, 66, 67, 68, 69, 70, 71, 72, 73, 74, 75, 76, 77, 78, 79, 80, 81, 104, 105, 106, 107, 108, 109, 92, 93, 94, 95, 96, 97, 98, 99, 100, 101, 102, 103] (by decide +kernel) (by decide +kernel)
set_option maxRecDepth 20000 in
theorem gX1_order_X1_canBeOrdered : GoodIn wsX1_order (wsV RX1 74 RX1 yX1_canBeOrdered wsX1_canBeOrdered) := goodIn_app (goodIn_of _ (by decide +kernel)) ggX1_order_X1_canBeOrdered
set_option maxRecDepth 20000 in
theorem ggX1_order_X0_give : GoodIn wsX1_order wsX0_give := goodIn_r _ [85, 48, 47, 72, 104, 105, 106, 107, 108, 109] (by decide +kernel) (by decide +kernel)
set_option maxRecDepth 20000 in
theorem gX1_order_X0_give : GoodIn wsX1_order (wsV RX1 80 RX0 yX0_give wsX0_give) := goodIn_app (goodIn_of _ (by decide +kernel)) ggX1_order_X0_give
set_option maxRecDepth 20000 in
theorem ggX1_order_X1_write : GoodIn wsX1_order wsX1_write := goodIn_r _ [89, 90, 91, 4, 92, 93, 94, 95, 96, 97, 98, 99, 100, 101, 102, 103] (by decide +kernel) (by decide +kernel)
set_option maxRecDepth 20000 in
theorem gX1_order_X1_write : GoodIn wsX1_order (wsV RX1 83 RX1 yX1_write wsX1_write) := goodIn_app (goodIn_of _ (by decide +kernel)) ggX1_order_X1_write
theorem dX1_order_0 : decode cX1_order 0 = .ok (.iload_n 1, 1) := by decide +kernel
theorem dX1_order_1 : decode cX1_order 1 = .ok (.iconst 2, 1) := by decide +kernel
theorem dX1_order_2 : decode cX1_order 2 = .ok (.invokestatic 66, 3) := by decide +kernel
theorem dX1_order_5 : decode cX1_order 5 = .ok (.iload_n 3, 1) := by decide +kernel
theorem dX1_order_6 : decode cX1_order 6 = .ok (.aload_n 0, 1) := by decide +kernel
theorem dX1_order_7 : decode cX1_order 7 = .ok (.getfield 39, 3) := by decide +kernel
theorem dX1_order_10 : decode cX1_order 10 = .ok (.invokestatic 66, 3) := by decide +kernel
theorem dX1_order_13 : decode cX1_order 13 = .ok (.iload 4, 2) := by decide +kernel
theorem dX1_order_15 : decode cX1_order 15 = .ok (.iconst 5, 1) := by decide +kernel
theorem dX1_order_16 : decode cX1_order 16 = .ok (.invokestatic 66, 3) := by decide +kernel
theorem dX1_order_19 : decode cX1_order 19 = .ok (.iload 5, 2) := by decide +kernel
theorem dX1_order_21 : decode cX1_order 21 = .ok (.iconst 5, 1) := by decide +kernel
theorem dX1_order_22 : decode cX1_order 22 = .ok (.invokestatic 66, 3) := by decide +kernel
theorem dX1_order_25 : decode cX1_order 25 = .ok (.iload_n 2, 1) := by decide +kernel
theorem dX1_order_26 : decode cX1_order 26 = .ok (.iconst 0, 1) := by decide +kernel
theorem dX1_order_27 : decode cX1_order 27 = .ok (.sipush 999, 3) := by decide +kernel
theorem dX1_order_30 : decode cX1_order 30 = .ok (.invokestatic 52, 3) := by decide +kernel
theorem dX1_order_33 : decode cX1_order 33 = .ok (.aload_n 0, 1) := by decide +kernel
theorem dX1_order_34 : decode cX1_order 34 = .ok (.getfield 32, 3) := by decide +kernel
theorem dX1_order_37 : decode cX1_order 37 = .ok (.iload_n 2, 1) := by decide +kernel
theorem dX1_order_38 : decode cX1_order 38 = .ok (.iaload, 1) := by decide +kernel
theorem dX1_order_39 : decode cX1_order 39 = .ok (.iconst (-1), 1) := by decide +kernel
theorem dX1_order_40 : decode cX1_order 40 = .ok (.if_icmp .eq 10, 3) := by decide +kernel
theorem dX1_order_43 : decode cX1_order 43 = .ok (.aload_n 0, 1) := by decide +kernel
theorem dX1_order_44 : decode cX1_order 44 = .ok (.getfield 32, 3) := by decide +kernel
theorem dX1_order_47 : decode cX1_order 47 = .ok (.iload_n 2, 1) := by decide +kernel
theorem dX1_order_48 : decode cX1_order 48 = .ok (.iaload, 1) := by decide +kernel
theorem dX1_order_49 : decode cX1_order 49 = .ok (.ireturn, 1) := by decide +kernel
theorem dX1_order_50 : decode cX1_order 50 = .ok (.aload_n 0, 1) := by decide +kernel
theorem dX1_order_51 : decode cX1_order 51 = .ok (.invokevirtual 70, 3) := by decide +kernel
theorem dX1_order_54 : decode cX1_order 54 = .ok (.iload_n 1, 1) := by decide +kernel
theorem dX1_order_55 : decode cX1_order 55 = .ok (.if_icmp .ne 20, 3) := by decide +kernel
theorem dX1_order_58 : decode cX1_order 58 = .ok (.aload_n 0, 1) := by decide +kernel
theorem dX1_order_59 : decode cX1_order 59 = .ok (.aload_n 0, 1) := by decide +kernel
theorem dX1_order_60 : decode cX1_order 60 = .ok (.getfield 11, 3) := by decide +kernel
theorem dX1_order_63 : decode cX1_order 63 = .ok (.iload_n 3, 1) := by decide +kernel
theorem dX1_order_64 : decode cX1_order 64 = .ok (.aaload, 1) := by decide +kernel
theorem dX1_order_65 : decode cX1_order 65 = .ok (.iload 4, 2) := by decide +kernel
theorem dX1_order_67 : decode cX1_order 67 = .ok (.iload 5, 2) := by decide +kernel
theorem dX1_order_69 : decode cX1_order 69 = .ok (.invokevirtual 74, 3) := by decide +kernel
theorem dX1_order_72 : decode cX1_order 72 = .ok (.ifCond .ne 13, 3) := by decide +kernel
theorem dX1_order_75 : decode cX1_order 75 = .ok (.new 56, 3) := by decide +kernel
theorem dX1_order_78 : decode cX1_order 78 = .ok (.dup, 1) := by decide +kernel
theorem dX1_order_79 : decode cX1_order 79 = .ok (.ldc 78, 2) := by decide +kernel
theorem dX1_order_81 : decode cX1_order 81 = .ok (.invokespecial 60, 3) := by decide +kernel
theorem dX1_order_84 : decode cX1_order 84 = .ok (.athrow, 1) := by decide +kernel
theorem dX1_order_85 : decode cX1_order 85 = .ok (.aload_n 0, 1) := by decide +kernel
theorem dX1_order_86 : decode cX1_order 86 = .ok (.getfield 11, 3) := by decide +kernel
theorem dX1_order_89 : decode cX1_order 89 = .ok (.iload_n 3, 1) := by decide +kernel
theorem dX1_order_90 : decode cX1_order 90 = .ok (.aaload, 1) := by decide +kernel
theorem dX1_order_91 : decode cX1_order 91 = .ok (.iload 4, 2) := by decide +kernel
theorem dX1_order_93 : decode cX1_order 93 = .ok (.iload 5, 2) := by decide +kernel
theorem dX1_order_95 : decode cX1_order 95 = .ok (.invokevirtual 80, 3) := by decide +kernel
theorem dX1_order_98 : decode cX1_order 98 = .ok (.aload_n 0, 1) := by decide +kernel
theorem dX1_order_99 : decode cX1_order 99 = .ok (.iload_n 2, 1) := by decide +kernel
theorem dX1_order_100 : decode cX1_order 100 = .ok (.bipush 100, 2) := by decide +kernel
theorem dX1_order_102 : decode cX1_order 102 = .ok (.iload_n 3, 1) := by decide +kernel
theorem dX1_order_103 : decode cX1_order 103 = .ok (.imul, 1) := by decide +kernel
theorem dX1_order_104 : decode cX1_order 104 = .ok (.bipush 10, 2) := by decide +kernel
theorem dX1_order_106 : decode cX1_order 106 = .ok (.iload 4, 2) := by decide +kernel
theorem dX1_order_108 : decode cX1_order 108 = .ok (.imul, 1) := by decide +kernel
theorem dX1_order_109 : decode cX1_order 109 = .ok (.iadd, 1) := by decide +kernel
theorem dX1_order_110 : decode cX1_order 110 = .ok (.iload 5, 2) := by decide +kernel
theorem dX1_order_112 : decode cX1_order 112 = .ok (.iadd, 1) := by decide +kernel
theorem dX1_order_113 : decode cX1_order 113 = .ok (.invokevirtual 83, 3) := by decide +kernel
theorem dX1_order_116 : decode cX1_order 116 = .ok (.ireturn, 1) := by decide +kernel
set_option maxRecDepth 20000 in
theorem ggX1_breaks_X1_requireIndex : GoodIn wsX1_breaks wsX1_requireIndex := goodIn_ca (goodIn_r _ [5, 6, 7] (by decide +kernel) (by decide +kernel)) (goodIn_sub (fun _ h => List.mem_cons_of_mem _ (List.mem_append_right _ h)) (by decide +kernel))
set_option maxRecDepth 20000 in
theorem gX1_breaks_X1_requireIndex : GoodIn wsX1_breaks (va_wsS RX1 66 yX1_requireIndex wsX1_requireIndex) := goodIn_app (goodIn_of _ (by decide +kernel)) ggX1_breaks_X1_requireIndex
set_option maxRecDepth 20000 in
theorem ggX1_breaks_X1_unplug : GoodIn wsX1_breaks wsX1_unplug := goodIn_r _ [11, 12, 65, 66, 67, 68, 69, 70, 71, 72, 73, 74, 75, 76] (by decide +kernel) (by decide +kernel)
set_option maxRecDepth 20000 in
theorem gX1_breaks_X1_unplug : GoodIn wsX1_breaks (wsV RX1 87 RX1 yX1_unplug wsX1_unplug) := goodIn_app (goodIn_of _ (by decide +kernel)) ggX1_breaks_X1_unplug
set_option maxRecDepth 20000 in
theorem ggX1_breaks_X1_takeOrdersFromBus : GoodIn wsX1_breaks wsX1_takeOrdersFromBus := goodIn_r _ [16, 17, 18, 19, 20, 21, 22, 23, 24, 25, 26, 27, 28, 65, 66, 67, 68, 69, 70, 71, 72, 73, 74, 75, 76, 77, 78, 79, 80, 81, 82] (by decide +kernel) (by decide +kernel)
set_option maxRecDepth 20000 in
theorem gX1_breaks_X1_takeOrdersFromBus : GoodIn wsX1_breaks (wsV RX1 91 RX1 yX1_takeOrdersFromBus wsX1_takeOrdersFromBus) := goodIn_app (goodIn_of _ (by decide +kernel)) ggX1_breaks_X1_takeOrdersFromBus
set_option maxRecDepth 20000 in
theorem ggX1_breaks_X1_swapBus : GoodIn wsX1_breaks wsX1_swapBus := goodIn_r _ [32, 17, 18, 19, 20, 33, 34, 35, 4, 36, 37, 38, 39, 40, 41, 42, 43, 44, 45, 1, 46, 47, 48, 49, 50, 51, 52, 53, 24, 54, 27, 26, 55, 56, 57, 58, 59, 60, 21, 22, 23, 25, 28, 61, 62, 63, 64, 8, 9, 10, 11, 12, 65, 66, 67, 68, 69, 70, 71, 72, 73, 74, 75, 76, 77, 78, 79, 80, 81, 82] (by decide +kernel) (by decide +kernel)
set_option maxRecDepth 20000 in
theorem gX1_breaks_X1_swapBus : GoodIn wsX1_breaks (wsV RX1 94 RX1 yX1_swapBus wsX1_swapBus) := goodIn_app (goodIn_of _ (by decide +kernel)) ggX1_breaks_X1_swapBus
theorem dX1_breaks_0 : decode cX1_breaks 0 = .ok (.iload_n 1, 1) := by decide +kernel
theorem dX1_breaks_1 : decode cX1_breaks 1 = .ok (.iconst 5, 1) := by decide +kernel
theorem dX1_breaks_2 : decode cX1_breaks 2 = .ok (.invokestatic 66, 3) := by decide +kernel
theorem dX1_breaks_5 : decode cX1_breaks 5 = .ok (.aload_n 0, 1) := by decide +kernel
theorem dX1_breaks_6 : decode cX1_breaks 6 = .ok (.getfield 19, 3) := by decide +kernel
theorem dX1_breaks_9 : decode cX1_breaks 9 = .ok (.iload_n 1, 1) := by decide +kernel
theorem dX1_breaks_10 : decode cX1_breaks 10 = .ok (.baload, 1) := by decide +kernel
theorem dX1_breaks_11 : decode cX1_breaks 11 = .ok (.istore_n 3, 1) := by decide +kernel
theorem dX1_breaks_12 : decode cX1_breaks 12 = .ok (.aload_n 0, 1) := by decide +kernel
theorem dX1_breaks_13 : decode cX1_breaks 13 = .ok (.getfield 19, 3) := by decide +kernel
theorem dX1_breaks_16 : decode cX1_breaks 16 = .ok (.iload_n 1, 1) := by decide +kernel
theorem dX1_breaks_17 : decode cX1_breaks 17 = .ok (.iload_n 2, 1) := by decide +kernel
theorem dX1_breaks_18 : decode cX1_breaks 18 = .ok (.bastore, 1) := by decide +kernel
theorem dX1_breaks_19 : decode cX1_breaks 19 = .ok (.iload_n 2, 1) := by decide +kernel
theorem dX1_breaks_20 : decode cX1_breaks 20 = .ok (.ifCond .eq 18, 3) := by decide +kernel
theorem dX1_breaks_23 : decode cX1_breaks 23 = .ok (.aload_n 0, 1) := by decide +kernel
theorem dX1_breaks_24 : decode cX1_breaks 24 = .ok (.iload_n 1, 1) := by decide +kernel
theorem dX1_breaks_25 : decode cX1_breaks 25 = .ok (.invokevirtual 87, 3) := by decide +kernel
theorem dX1_breaks_28 : decode cX1_breaks 28 = .ok (.aload_n 0, 1) := by decide +kernel
theorem dX1_breaks_29 : decode cX1_breaks 29 = .ok (.iload_n 1, 1) := by decide +kernel
theorem dX1_breaks_30 : decode cX1_breaks 30 = .ok (.invokevirtual 91, 3) := by decide +kernel
theorem dX1_breaks_33 : decode cX1_breaks 33 = .ok (.aload_n 0, 1) := by decide +kernel
theorem dX1_breaks_34 : decode cX1_breaks 34 = .ok (.iload_n 1, 1) := by decide +kernel
theorem dX1_breaks_35 : decode cX1_breaks 35 = .ok (.invokevirtual 94, 3) := by decide +kernel
theorem dX1_breaks_38 : decode cX1_breaks 38 = .ok (.iload_n 3, 1) := by decide +kernel
theorem dX1_breaks_39 : decode cX1_breaks 39 = .ok (.ireturn, 1) := by decide +kernel
set_option maxRecDepth 20000 in
theorem ggX1_ails_X1_requireIndex : GoodIn wsX1_ails wsX1_requireIndex := goodIn_ca (goodIn_r _ [5, 6, 7] (by decide +kernel) (by decide +kernel)) (goodIn_sub (fun _ h => List.mem_cons_of_mem _ (List.mem_append_right _ h)) (by decide +kernel))
set_option maxRecDepth 20000 in
theorem gX1_ails_X1_requireIndex : GoodIn wsX1_ails (va_wsS RX1 66 yX1_requireIndex wsX1_requireIndex) := goodIn_app (goodIn_of _ (by decide +kernel)) ggX1_ails_X1_requireIndex
set_option maxRecDepth 20000 in
theorem ggX1_ails_X1_takeOrdersFromDriver : GoodIn wsX1_ails wsX1_takeOrdersFromDriver := goodIn_r _ [11, 12, 13, 14, 15, 16, 17, 18, 19, 20, 21, 22, 23, 63, 64, 65, 66, 67, 68, 69, 70, 71, 72, 73, 74, 75, 76, 77, 78, 79, 80] (by decide +kernel) (by decide +kernel)
set_option maxRecDepth 20000 in
theorem gX1_ails_X1_takeOrdersFromDriver : GoodIn wsX1_ails (wsV RX1 97 RX1 yX1_takeOrdersFromDriver wsX1_takeOrdersFromDriver) := goodIn_app (goodIn_of _ (by decide +kernel)) ggX1_ails_X1_takeOrdersFromDriver
set_option maxRecDepth 20000 in
theorem ggX1_ails_X1_swapDriver : GoodIn wsX1_ails wsX1_swapDriver := goodIn_r _ [27, 12, 13, 14, 15, 28, 29, 30, 4, 31, 32, 33, 34, 35, 36, 37, 38, 39, 1, 40, 41, 42, 19, 43, 44, 45, 46, 47, 48, 49, 50, 51, 52, 23, 53, 54, 55, 56, 57, 58, 59, 60, 61, 62, 16, 17, 18, 20, 21, 22, 63, 64, 65, 66, 67, 68, 69, 70, 71, 72, 73, 74, 75, 76, 77, 78, 79, 80] (by decide +kernel) (by decide +kernel)
set_option maxRecDepth 20000 in
theorem gX1_ails_X1_swapDriver : GoodIn wsX1_ails (wsV RX1 100 RX1 yX1_swapDriver wsX1_swapDriver) := goodIn_app (goodIn_of _ (by decide +kernel)) ggX1_ails_X1_swapDriver
theorem dX1_ails_0 : decode cX1_ails 0 = .ok (.iload_n 1, 1) := by decide +kernel
theorem dX1_ails_1 : decode cX1_ails 1 = .ok (.iconst 5, 1) := by decide +kernel
theorem dX1_ails_2 : decode cX1_ails 2 = .ok (.invokestatic 66, 3) := by decide +kernel
theorem dX1_ails_5 : decode cX1_ails 5 = .ok (.aload_n 0, 1) := by decide +kernel
theorem dX1_ails_6 : decode cX1_ails 6 = .ok (.getfield 23, 3) := by decide +kernel
theorem dX1_ails_9 : decode cX1_ails 9 = .ok (.iload_n 1, 1) := by decide +kernel
theorem dX1_ails_10 : decode cX1_ails 10 = .ok (.baload, 1) := by decide +kernel
theorem dX1_ails_11 : decode cX1_ails 11 = .ok (.istore_n 3, 1) := by decide +kernel
theorem dX1_ails_12 : decode cX1_ails 12 = .ok (.aload_n 0, 1) := by decide +kernel
theorem dX1_ails_13 : decode cX1_ails 13 = .ok (.getfield 23, 3) := by decide +kernel
theorem dX1_ails_16 : decode cX1_ails 16 = .ok (.iload_n 1, 1) := by decide +kernel
theorem dX1_ails_17 : decode cX1_ails 17 = .ok (.iload_n 2, 1) := by decide +kernel
theorem dX1_ails_18 : decode cX1_ails 18 = .ok (.bastore, 1) := by decide +kernel
theorem dX1_ails_19 : decode cX1_ails 19 = .ok (.iload_n 2, 1) := by decide +kernel
theorem dX1_ails_20 : decode cX1_ails 20 = .ok (.ifCond .eq 13, 3) := by decide +kernel
theorem dX1_ails_23 : decode cX1_ails 23 = .ok (.aload_n 0, 1) := by decide +kernel
theorem dX1_ails_24 : decode cX1_ails 24 = .ok (.iload_n 1, 1) := by decide +kernel
theorem dX1_ails_25 : decode cX1_ails 25 = .ok (.invokevirtual 97, 3) := by decide +kernel
theorem dX1_ails_28 : decode cX1_ails 28 = .ok (.aload_n 0, 1) := by decide +kernel
theorem dX1_ails_29 : decode cX1_ails 29 = .ok (.iload_n 1, 1) := by decide +kernel
theorem dX1_ails_30 : decode cX1_ails 30 = .ok (.invokevirtual 100, 3) := by decide +kernel
theorem dX1_ails_33 : decode cX1_ails 33 = .ok (.iload_n 3, 1) := by decide +kernel
theorem dX1_ails_34 : decode cX1_ails 34 = .ok (.ireturn, 1) := by decide +kernel
set_option maxRecDepth 20000 in
theorem ggX1_plug_X1_requireIndex : GoodIn wsX1_plug wsX1_requireIndex := goodIn_ca (goodIn_r _ [7, 8, 9] (by decide +kernel) (by decide +kernel)) (goodIn_sub (fun _ h => List.mem_cons_of_mem _ (List.mem_append_right _ h)) (by decide +kernel))
set_option maxRecDepth 20000 in
theorem gX1_plug_X1_requireIndex : GoodIn wsX1_plug (va_wsS RX1 66 yX1_requireIndex wsX1_requireIndex) := goodIn_app (goodIn_of _ (by decide +kernel)) ggX1_plug_X1_requireIndex
set_option maxRecDepth 20000 in
theorem ggX1_plug_X1_isUnderWay : GoodIn wsX1_plug wsX1_isUnderWay := goodIn_r _ [13, 14, 15, 16, 17, 22, 23, 24, 25, 26, 27, 28, 29, 30, 31, 32, 33, 34, 35, 36, 37, 38, 39] (by decide +kernel) (by decide +kernel)
set_option maxRecDepth 20000 in
theorem gX1_plug_X1_isUnderWay : GoodIn wsX1_plug (wsV RX1 103 RX1 yX1_isUnderWay wsX1_isUnderWay) := goodIn_app (goodIn_of _ (by decide +kernel)) ggX1_plug_X1_isUnderWay
set_option maxRecDepth 20000 in
theorem ggX1_plug_X1_unplug : GoodIn wsX1_plug wsX1_unplug := goodIn_r _ [21, 3, 22, 23, 24, 25, 26, 27, 28, 29, 30, 31, 32, 33] (by decide +kernel) (by decide +kernel)
set_option maxRecDepth 20000 in
theorem gX1_plug_X1_unplug : GoodIn wsX1_plug (wsV RX1 87 RX1 yX1_unplug wsX1_unplug) := goodIn_app (goodIn_of _ (by decide +kernel)) ggX1_plug_X1_unplug
theorem dX1_plug_0 : decode cX1_plug 0 = .ok (.iload_n 1, 1) := by decide +kernel
theorem dX1_plug_1 : decode cX1_plug 1 = .ok (.iconst 5, 1) := by decide +kernel
theorem dX1_plug_2 : decode cX1_plug 2 = .ok (.invokestatic 66, 3) := by decide +kernel
theorem dX1_plug_5 : decode cX1_plug 5 = .ok (.iload_n 2, 1) := by decide +kernel
theorem dX1_plug_6 : decode cX1_plug 6 = .ok (.iconst 2, 1) := by decide +kernel
theorem dX1_plug_7 : decode cX1_plug 7 = .ok (.invokestatic 66, 3) := by decide +kernel
theorem dX1_plug_10 : decode cX1_plug 10 = .ok (.aload_n 0, 1) := by decide +kernel
theorem dX1_plug_11 : decode cX1_plug 11 = .ok (.iload_n 1, 1) := by decide +kernel
theorem dX1_plug_12 : decode cX1_plug 12 = .ok (.invokevirtual 103, 3) := by decide +kernel
theorem dX1_plug_15 : decode cX1_plug 15 = .ok (.ifCond .eq 13, 3) := by decide +kernel
theorem dX1_plug_18 : decode cX1_plug 18 = .ok (.new 56, 3) := by decide +kernel
theorem dX1_plug_21 : decode cX1_plug 21 = .ok (.dup, 1) := by decide +kernel
theorem dX1_plug_22 : decode cX1_plug 22 = .ok (.ldc 107, 2) := by decide +kernel
theorem dX1_plug_24 : decode cX1_plug 24 = .ok (.invokespecial 60, 3) := by decide +kernel
theorem dX1_plug_27 : decode cX1_plug 27 = .ok (.athrow, 1) := by decide +kernel
theorem dX1_plug_28 : decode cX1_plug 28 = .ok (.aload_n 0, 1) := by decide +kernel
theorem dX1_plug_29 : decode cX1_plug 29 = .ok (.iload_n 1, 1) := by decide +kernel
theorem dX1_plug_30 : decode cX1_plug 30 = .ok (.invokevirtual 87, 3) := by decide +kernel
theorem dX1_plug_33 : decode cX1_plug 33 = .ok (.aload_n 0, 1) := by decide +kernel
theorem dX1_plug_34 : decode cX1_plug 34 = .ok (.getfield 26, 3) := by decide +kernel
theorem dX1_plug_37 : decode cX1_plug 37 = .ok (.iload_n 2, 1) := by decide +kernel
theorem dX1_plug_38 : decode cX1_plug 38 = .ok (.iaload, 1) := by decide +kernel
theorem dX1_plug_39 : decode cX1_plug 39 = .ok (.istore_n 3, 1) := by decide +kernel
theorem dX1_plug_40 : decode cX1_plug 40 = .ok (.aload_n 0, 1) := by decide +kernel
theorem dX1_plug_41 : decode cX1_plug 41 = .ok (.getfield 26, 3) := by decide +kernel
theorem dX1_plug_44 : decode cX1_plug 44 = .ok (.iload_n 2, 1) := by decide +kernel
theorem dX1_plug_45 : decode cX1_plug 45 = .ok (.iload_n 1, 1) := by decide +kernel
theorem dX1_plug_46 : decode cX1_plug 46 = .ok (.iastore, 1) := by decide +kernel
theorem dX1_plug_47 : decode cX1_plug 47 = .ok (.iload_n 3, 1) := by decide +kernel
theorem dX1_plug_48 : decode cX1_plug 48 = .ok (.ireturn, 1) := by decide +kernel
set_option maxRecDepth 20000 in
theorem ggX1_advance_X1_requireRange : GoodIn wsX1_advance wsX1_requireRange := goodIn_ca (goodIn_r _ [7, 8, 9] (by decide +kernel) (by decide +kernel)) (goodIn_sub (fun _ h => List.mem_cons_of_mem _ (List.mem_append_right _ h)) (by decide +kernel))
set_option maxRecDepth 20000 in
theorem gX1_advance_X1_requireRange : GoodIn wsX1_advance (va_wsS RX1 52 yX1_requireRange wsX1_requireRange) := goodIn_app (goodIn_of _ (by decide +kernel)) ggX1_advance_X1_requireRange
set_option maxRecDepth 20000 in
theorem ggX1_advance_X1_passMinute : GoodIn wsX1_advance wsX1_passMinute := goodIn_r _ [13, 3, 14, 15, 16, 6, 17, 18, 19, 20, 21, 22, 23, 24, 25, 26, 27, 28, 29, 30, 31, 32, 33, 34, 35, 36, 37, 38, 39, 40, 41, 42, 43, 44, 45, 46, 47, 48, 49, 50, 51, 52, 53, 54, 55, 56, 57, 58, 59, 60, 61, 62, 63, 64, 65, 66, 67, 68, 69, 70, 71, 72] (by decide +kernel) (by decide +kernel)
set_option maxRecDepth 20000 in
theorem gX1_advance_X1_passMinute : GoodIn wsX1_advance (wsV RX1 111 RX1 yX1_passMinute wsX1_passMinute) := goodIn_app (goodIn_of _ (by decide +kernel)) ggX1_advance_X1_passMinute
theorem dX1_advance_0 : decode cX1_advance 0 = .ok (.iload_n 1, 1) := by decide +kernel
theorem dX1_advance_1 : decode cX1_advance 1 = .ok (.iconst 1, 1) := by decide +kernel
theorem dX1_advance_2 : decode cX1_advance 2 = .ok (.sipush 1000, 3) := by decide +kernel
theorem dX1_advance_5 : decode cX1_advance 5 = .ok (.invokestatic 52, 3) := by decide +kernel
theorem dX1_advance_8 : decode cX1_advance 8 = .ok (.aload_n 0, 1) := by decide +kernel
theorem dX1_advance_9 : decode cX1_advance 9 = .ok (.getfield 35, 3) := by decide +kernel
theorem dX1_advance_12 : decode cX1_advance 12 = .ok (.iload_n 1, 1) := by decide +kernel
theorem dX1_advance_13 : decode cX1_advance 13 = .ok (.iadd, 1) := by decide +kernel
theorem dX1_advance_14 : decode cX1_advance 14 = .ok (.sipush 30000, 3) := by decide +kernel
theorem dX1_advance_17 : decode cX1_advance 17 = .ok (.if_icmp .le 13, 3) := by decide +kernel
theorem dX1_advance_20 : decode cX1_advance 20 = .ok (.new 56, 3) := by decide +kernel
theorem dX1_advance_23 : decode cX1_advance 23 = .ok (.dup, 1) := by decide +kernel
theorem dX1_advance_24 : decode cX1_advance 24 = .ok (.ldc 109, 2) := by decide +kernel
theorem dX1_advance_26 : decode cX1_advance 26 = .ok (.invokespecial 60, 3) := by decide +kernel
theorem dX1_advance_29 : decode cX1_advance 29 = .ok (.athrow, 1) := by decide +kernel
theorem dX1_advance_30 : decode cX1_advance 30 = .ok (.iconst 0, 1) := by decide +kernel
theorem dX1_advance_31 : decode cX1_advance 31 = .ok (.istore_n 2, 1) := by decide +kernel
theorem dX1_advance_32 : decode cX1_advance 32 = .ok (.iload_n 2, 1) := by decide +kernel
theorem dX1_advance_33 : decode cX1_advance 33 = .ok (.iload_n 1, 1) := by decide +kernel
theorem dX1_advance_34 : decode cX1_advance 34 = .ok (.if_icmp .ge 13, 3) := by decide +kernel
theorem dX1_advance_37 : decode cX1_advance 37 = .ok (.aload_n 0, 1) := by decide +kernel
theorem dX1_advance_38 : decode cX1_advance 38 = .ok (.invokevirtual 111, 3) := by decide +kernel
theorem dX1_advance_41 : decode cX1_advance 41 = .ok (.iinc 2 1, 3) := by decide +kernel
theorem dX1_advance_44 : decode cX1_advance 44 = .ok (.goto (-12), 3) := by decide +kernel
theorem dX1_advance_47 : decode cX1_advance 47 = .ok (.aload_n 0, 1) := by decide +kernel
theorem dX1_advance_48 : decode cX1_advance 48 = .ok (.getfield 35, 3) := by decide +kernel
theorem dX1_advance_51 : decode cX1_advance 51 = .ok (.ireturn, 1) := by decide +kernel
theorem dX1_minute_0 : decode cX1_minute 0 = .ok (.aload_n 0, 1) := by decide +kernel
theorem dX1_minute_1 : decode cX1_minute 1 = .ok (.getfield 35, 3) := by decide +kernel
theorem dX1_minute_4 : decode cX1_minute 4 = .ok (.ireturn, 1) := by decide +kernel
theorem dX1_leader_0 : decode cX1_leader 0 = .ok (.aload_n 0, 1) := by decide +kernel
theorem dX1_leader_1 : decode cX1_leader 1 = .ok (.getfield 35, 3) := by decide +kernel
theorem dX1_leader_4 : decode cX1_leader 4 = .ok (.aload_n 0, 1) := by decide +kernel
theorem dX1_leader_5 : decode cX1_leader 5 = .ok (.getfield 48, 3) := by decide +kernel
theorem dX1_leader_8 : decode cX1_leader 8 = .ok (.if_icmp .ge 10, 3) := by decide +kernel
theorem dX1_leader_11 : decode cX1_leader 11 = .ok (.aload_n 0, 1) := by decide +kernel
theorem dX1_leader_12 : decode cX1_leader 12 = .ok (.getfield 45, 3) := by decide +kernel
theorem dX1_leader_15 : decode cX1_leader 15 = .ok (.goto 4, 3) := by decide +kernel
theorem dX1_leader_18 : decode cX1_leader 18 = .ok (.iconst (-1), 1) := by decide +kernel
theorem dX1_leader_19 : decode cX1_leader 19 = .ok (.ireturn, 1) := by decide +kernel
theorem dX1_runs_0 : decode cX1_runs 0 = .ok (.aload_n 0, 1) := by decide +kernel
theorem dX1_runs_1 : decode cX1_runs 1 = .ok (.getfield 39, 3) := by decide +kernel
theorem dX1_runs_4 : decode cX1_runs 4 = .ok (.ireturn, 1) := by decide +kernel
theorem dX1_orders_0 : decode cX1_orders 0 = .ok (.aload_n 0, 1) := by decide +kernel
theorem dX1_orders_1 : decode cX1_orders 1 = .ok (.getfield 42, 3) := by decide +kernel
theorem dX1_orders_4 : decode cX1_orders 4 = .ok (.ireturn, 1) := by decide +kernel
set_option maxRecDepth 20000 in
theorem ggX1_orderAt_X1_requireIndex : GoodIn wsX1_orderAt wsX1_requireIndex := goodIn_ca (goodIn_r _ [6, 7, 8] (by decide +kernel) (by decide +kernel)) (goodIn_sub (fun _ h => List.mem_cons_of_mem _ (List.mem_append_right _ h)) (by decide +kernel))
set_option maxRecDepth 20000 in
theorem gX1_orderAt_X1_requireIndex : GoodIn wsX1_orderAt (va_wsS RX1 66 yX1_requireIndex wsX1_requireIndex) := goodIn_app (goodIn_of _ (by decide +kernel)) ggX1_orderAt_X1_requireIndex
theorem dX1_orderAt_0 : decode cX1_orderAt 0 = .ok (.iload_n 1, 1) := by decide +kernel
theorem dX1_orderAt_1 : decode cX1_orderAt 1 = .ok (.aload_n 0, 1) := by decide +kernel
theorem dX1_orderAt_2 : decode cX1_orderAt 2 = .ok (.getfield 42, 3) := by decide +kernel
theorem dX1_orderAt_5 : decode cX1_orderAt 5 = .ok (.invokestatic 66, 3) := by decide +kernel
theorem dX1_orderAt_8 : decode cX1_orderAt 8 = .ok (.aload_n 0, 1) := by decide +kernel
theorem dX1_orderAt_9 : decode cX1_orderAt 9 = .ok (.getfield 29, 3) := by decide +kernel
theorem dX1_orderAt_12 : decode cX1_orderAt 12 = .ok (.iload_n 1, 1) := by decide +kernel
theorem dX1_orderAt_13 : decode cX1_orderAt 13 = .ok (.iaload, 1) := by decide +kernel
theorem dX1_orderAt_14 : decode cX1_orderAt 14 = .ok (.ireturn, 1) := by decide +kernel
set_option maxRecDepth 20000 in
theorem ggX1_stateOf_X1_requireIndex : GoodIn wsX1_stateOf wsX1_requireIndex := goodIn_ca (goodIn_r _ [7, 8, 9] (by decide +kernel) (by decide +kernel)) (goodIn_sub (fun _ h => List.mem_cons_of_mem _ (List.mem_append_right _ h)) (by decide +kernel))
set_option maxRecDepth 20000 in
theorem gX1_stateOf_X1_requireIndex : GoodIn wsX1_stateOf (va_wsS RX1 66 yX1_requireIndex wsX1_requireIndex) := goodIn_app (goodIn_of _ (by decide +kernel)) ggX1_stateOf_X1_requireIndex
theorem dX1_stateOf_0 : decode cX1_stateOf 0 = .ok (.iload_n 1, 1) := by decide +kernel
theorem dX1_stateOf_1 : decode cX1_stateOf 1 = .ok (.aload_n 0, 1) := by decide +kernel
theorem dX1_stateOf_2 : decode cX1_stateOf 2 = .ok (.getfield 39, 3) := by decide +kernel
theorem dX1_stateOf_5 : decode cX1_stateOf 5 = .ok (.invokestatic 66, 3) := by decide +kernel
theorem dX1_stateOf_8 : decode cX1_stateOf 8 = .ok (.aload_n 0, 1) := by decide +kernel
theorem dX1_stateOf_9 : decode cX1_stateOf 9 = .ok (.getfield 11, 3) := by decide +kernel
theorem dX1_stateOf_12 : decode cX1_stateOf 12 = .ok (.iload_n 1, 1) := by decide +kernel
theorem dX1_stateOf_13 : decode cX1_stateOf 13 = .ok (.aaload, 1) := by decide +kernel
theorem dX1_stateOf_14 : decode cX1_stateOf 14 = .ok (.getfield 114, 3) := by decide +kernel
theorem dX1_stateOf_17 : decode cX1_stateOf 17 = .ok (.ireturn, 1) := by decide +kernel
set_option maxRecDepth 20000 in
theorem ggX1_busOf_X1_requireIndex : GoodIn wsX1_busOf wsX1_requireIndex := goodIn_ca (goodIn_r _ [7, 8, 9] (by decide +kernel) (by decide +kernel)) (goodIn_sub (fun _ h => List.mem_cons_of_mem _ (List.mem_append_right _ h)) (by decide +kernel))
set_option maxRecDepth 20000 in
theorem gX1_busOf_X1_requireIndex : GoodIn wsX1_busOf (va_wsS RX1 66 yX1_requireIndex wsX1_requireIndex) := goodIn_app (goodIn_of _ (by decide +kernel)) ggX1_busOf_X1_requireIndex
theorem dX1_busOf_0 : decode cX1_busOf 0 = .ok (.iload_n 1, 1) := by decide +kernel
theorem dX1_busOf_1 : decode cX1_busOf 1 = .ok (.aload_n 0, 1) := by decide +kernel
theorem dX1_busOf_2 : decode cX1_busOf 2 = .ok (.getfield 39, 3) := by decide +kernel
theorem dX1_busOf_5 : decode cX1_busOf 5 = .ok (.invokestatic 66, 3) := by decide +kernel
theorem dX1_busOf_8 : decode cX1_busOf 8 = .ok (.aload_n 0, 1) := by decide +kernel
theorem dX1_busOf_9 : decode cX1_busOf 9 = .ok (.getfield 11, 3) := by decide +kernel
theorem dX1_busOf_12 : decode cX1_busOf 12 = .ok (.iload_n 1, 1) := by decide +kernel
theorem dX1_busOf_13 : decode cX1_busOf 13 = .ok (.aaload, 1) := by decide +kernel
theorem dX1_busOf_14 : decode cX1_busOf 14 = .ok (.getfield 117, 3) := by decide +kernel
theorem dX1_busOf_17 : decode cX1_busOf 17 = .ok (.ireturn, 1) := by decide +kernel
set_option maxRecDepth 20000 in
theorem ggX1_driverOf_X1_requireIndex : GoodIn wsX1_driverOf wsX1_requireIndex := goodIn_ca (goodIn_r _ [7, 8, 9] (by decide +kernel) (by decide +kernel)) (goodIn_sub (fun _ h => List.mem_cons_of_mem _ (List.mem_append_right _ h)) (by decide +kernel))
set_option maxRecDepth 20000 in
theorem gX1_driverOf_X1_requireIndex : GoodIn wsX1_driverOf (va_wsS RX1 66 yX1_requireIndex wsX1_requireIndex) := goodIn_app (goodIn_of _ (by decide +kernel)) ggX1_driverOf_X1_requireIndex
theorem dX1_driverOf_0 : decode cX1_driverOf 0 = .ok (.iload_n 1, 1) := by decide +kernel
theorem dX1_driverOf_1 : decode cX1_driverOf 1 = .ok (.aload_n 0, 1) := by decide +kernel
theorem dX1_driverOf_2 : decode cX1_driverOf 2 = .ok (.getfield 39, 3) := by decide +kernel
theorem dX1_driverOf_5 : decode cX1_driverOf 5 = .ok (.invokestatic 66, 3) := by decide +kernel
theorem dX1_driverOf_8 : decode cX1_driverOf 8 = .ok (.aload_n 0, 1) := by decide +kernel
theorem dX1_driverOf_9 : decode cX1_driverOf 9 = .ok (.getfield 11, 3) := by decide +kernel
theorem dX1_driverOf_12 : decode cX1_driverOf 12 = .ok (.iload_n 1, 1) := by decide +kernel
theorem dX1_driverOf_13 : decode cX1_driverOf 13 = .ok (.aaload, 1) := by decide +kernel
theorem dX1_driverOf_14 : decode cX1_driverOf 14 = .ok (.getfield 120, 3) := by decide +kernel
theorem dX1_driverOf_17 : decode cX1_driverOf 17 = .ok (.ireturn, 1) := by decide +kernel
set_option maxRecDepth 20000 in
theorem ggX1_charge_X1_requireIndex : GoodIn wsX1_charge wsX1_requireIndex := goodIn_ca (goodIn_r _ [5, 6, 7] (by decide +kernel) (by decide +kernel)) (goodIn_sub (fun _ h => List.mem_cons_of_mem _ (List.mem_append_right _ h)) (by decide +kernel))
set_option maxRecDepth 20000 in
theorem gX1_charge_X1_requireIndex : GoodIn wsX1_charge (va_wsS RX1 66 yX1_requireIndex wsX1_requireIndex) := goodIn_app (goodIn_of _ (by decide +kernel)) ggX1_charge_X1_requireIndex
theorem dX1_charge_0 : decode cX1_charge 0 = .ok (.iload_n 1, 1) := by decide +kernel
theorem dX1_charge_1 : decode cX1_charge 1 = .ok (.iconst 5, 1) := by decide +kernel
theorem dX1_charge_2 : decode cX1_charge 2 = .ok (.invokestatic 66, 3) := by decide +kernel
theorem dX1_charge_5 : decode cX1_charge 5 = .ok (.aload_n 0, 1) := by decide +kernel
theorem dX1_charge_6 : decode cX1_charge 6 = .ok (.getfield 15, 3) := by decide +kernel
theorem dX1_charge_9 : decode cX1_charge 9 = .ok (.iload_n 1, 1) := by decide +kernel
theorem dX1_charge_10 : decode cX1_charge 10 = .ok (.iaload, 1) := by decide +kernel
theorem dX1_charge_11 : decode cX1_charge 11 = .ok (.ireturn, 1) := by decide +kernel
set_option maxRecDepth 20000 in
theorem ggX1_promised_X1_requireIndex : GoodIn wsX1_promised wsX1_requireIndex := goodIn_ca (goodIn_r _ [4, 5, 6] (by decide +kernel) (by decide +kernel)) (goodIn_sub (fun _ h => List.mem_cons_of_mem _ (List.mem_append_right _ h)) (by decide +kernel))
set_option maxRecDepth 20000 in
theorem gX1_promised_X1_requireIndex : GoodIn wsX1_promised (va_wsS RX1 66 yX1_requireIndex wsX1_requireIndex) := goodIn_app (goodIn_of _ (by decide +kernel)) ggX1_promised_X1_requireIndex
set_option maxRecDepth 20000 in
theorem ggX1_promised_X1_promisedCharge : GoodIn wsX1_promised wsX1_promisedCharge := goodIn_r _ [10, 11, 12, 13, 14, 15, 16, 17, 18, 19, 20, 21, 22, 23, 24, 25, 26, 27, 28, 29, 30, 31, 32, 33] (by decide +kernel) (by decide +kernel)
set_option maxRecDepth 20000 in
theorem gX1_promised_X1_promisedCharge : GoodIn wsX1_promised (wsV RX1 123 RX1 yX1_promisedCharge wsX1_promisedCharge) := goodIn_app (goodIn_of _ (by decide +kernel)) ggX1_promised_X1_promisedCharge
theorem dX1_promised_0 : decode cX1_promised 0 = .ok (.iload_n 1, 1) := by decide +kernel
theorem dX1_promised_1 : decode cX1_promised 1 = .ok (.iconst 5, 1) := by decide +kernel
theorem dX1_promised_2 : decode cX1_promised 2 = .ok (.invokestatic 66, 3) := by decide +kernel
theorem dX1_promised_5 : decode cX1_promised 5 = .ok (.aload_n 0, 1) := by decide +kernel
theorem dX1_promised_6 : decode cX1_promised 6 = .ok (.iload_n 1, 1) := by decide +kernel
theorem dX1_promised_7 : decode cX1_promised 7 = .ok (.invokevirtual 123, 3) := by decide +kernel
theorem dX1_promised_10 : decode cX1_promised 10 = .ok (.ireturn, 1) := by decide +kernel
set_option maxRecDepth 20000 in
theorem ggX1_minutesOf_X1_requireIndex : GoodIn wsX1_minutesOf wsX1_requireIndex := goodIn_ca (goodIn_r _ [4, 5, 6] (by decide +kernel) (by decide +kernel)) (goodIn_sub (fun _ h => List.mem_cons_of_mem _ (List.mem_append_right _ h)) (by decide +kernel))
set_option maxRecDepth 20000 in
theorem gX1_minutesOf_X1_requireIndex : GoodIn wsX1_minutesOf (va_wsS RX1 66 yX1_requireIndex wsX1_requireIndex) := goodIn_app (goodIn_of _ (by decide +kernel)) ggX1_minutesOf_X1_requireIndex
set_option maxRecDepth 20000 in
theorem ggX1_minutesOf_X1_workedMinutes : GoodIn wsX1_minutesOf wsX1_workedMinutes := goodIn_r _ [10, 11, 12, 13, 14, 15, 16, 17, 18, 19, 20, 21, 22, 23, 24, 25, 26, 27, 28, 29, 30, 31, 32, 33, 34, 35, 36, 37, 38, 39, 40, 41, 42, 43, 44, 45, 46] (by decide +kernel) (by decide +kernel)
set_option maxRecDepth 20000 in
theorem gX1_minutesOf_X1_workedMinutes : GoodIn wsX1_minutesOf (wsV RX1 127 RX1 yX1_workedMinutes wsX1_workedMinutes) := goodIn_app (goodIn_of _ (by decide +kernel)) ggX1_minutesOf_X1_workedMinutes
theorem dX1_minutesOf_0 : decode cX1_minutesOf 0 = .ok (.iload_n 1, 1) := by decide +kernel
theorem dX1_minutesOf_1 : decode cX1_minutesOf 1 = .ok (.iconst 5, 1) := by decide +kernel
theorem dX1_minutesOf_2 : decode cX1_minutesOf 2 = .ok (.invokestatic 66, 3) := by decide +kernel
theorem dX1_minutesOf_5 : decode cX1_minutesOf 5 = .ok (.aload_n 0, 1) := by decide +kernel
theorem dX1_minutesOf_6 : decode cX1_minutesOf 6 = .ok (.iload_n 1, 1) := by decide +kernel
theorem dX1_minutesOf_7 : decode cX1_minutesOf 7 = .ok (.iload_n 2, 1) := by decide +kernel
theorem dX1_minutesOf_8 : decode cX1_minutesOf 8 = .ok (.invokevirtual 127, 3) := by decide +kernel
theorem dX1_minutesOf_11 : decode cX1_minutesOf 11 = .ok (.ireturn, 1) := by decide +kernel
theorem dX1_requireIndex_0 : decode cX1_requireIndex 0 = .ok (.iload_n 0, 1) := by decide +kernel
theorem dX1_requireIndex_1 : decode cX1_requireIndex 1 = .ok (.ifCond .lt 8, 3) := by decide +kernel
theorem dX1_requireIndex_4 : decode cX1_requireIndex 4 = .ok (.iload_n 0, 1) := by decide +kernel
theorem dX1_requireIndex_5 : decode cX1_requireIndex 5 = .ok (.iload_n 1, 1) := by decide +kernel
theorem dX1_requireIndex_6 : decode cX1_requireIndex 6 = .ok (.if_icmp .lt 13, 3) := by decide +kernel
theorem dX1_requireIndex_9 : decode cX1_requireIndex 9 = .ok (.new 130, 3) := by decide +kernel
theorem dX1_requireIndex_12 : decode cX1_requireIndex 12 = .ok (.dup, 1) := by decide +kernel
theorem dX1_requireIndex_13 : decode cX1_requireIndex 13 = .ok (.ldc 132, 2) := by decide +kernel
theorem dX1_requireIndex_15 : decode cX1_requireIndex 15 = .ok (.invokespecial 134, 3) := by decide +kernel
theorem dX1_requireIndex_18 : decode cX1_requireIndex 18 = .ok (.athrow, 1) := by decide +kernel
theorem dX1_requireIndex_19 : decode cX1_requireIndex 19 = .ok (.return_, 1) := by decide +kernel
theorem dX1_requireRange_0 : decode cX1_requireRange 0 = .ok (.iload_n 0, 1) := by decide +kernel
theorem dX1_requireRange_1 : decode cX1_requireRange 1 = .ok (.iload_n 1, 1) := by decide +kernel
theorem dX1_requireRange_2 : decode cX1_requireRange 2 = .ok (.if_icmp .lt 8, 3) := by decide +kernel
theorem dX1_requireRange_5 : decode cX1_requireRange 5 = .ok (.iload_n 0, 1) := by decide +kernel
theorem dX1_requireRange_6 : decode cX1_requireRange 6 = .ok (.iload_n 2, 1) := by decide +kernel
theorem dX1_requireRange_7 : decode cX1_requireRange 7 = .ok (.if_icmp .le 13, 3) := by decide +kernel
theorem dX1_requireRange_10 : decode cX1_requireRange 10 = .ok (.new 135, 3) := by decide +kernel
theorem dX1_requireRange_13 : decode cX1_requireRange 13 = .ok (.dup, 1) := by decide +kernel
theorem dX1_requireRange_14 : decode cX1_requireRange 14 = .ok (.ldc 137, 2) := by decide +kernel
