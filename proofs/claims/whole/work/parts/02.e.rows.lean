theorem dX2_init_17 : decode cX2_init 17 = .ok (.putfield 13, 3) := by decide +kernel
theorem dX2_init_20 : decode cX2_init 20 = .ok (.aload_n 0, 1) := by decide +kernel
theorem dX2_init_21 : decode cX2_init 21 = .ok (.bipush 30, 2) := by decide +kernel
theorem dX2_init_23 : decode cX2_init 23 = .ok (.newarray .int, 2) := by decide +kernel
theorem dX2_init_25 : decode cX2_init 25 = .ok (.putfield 16, 3) := by decide +kernel
theorem dX2_init_28 : decode cX2_init 28 = .ok (.aload_n 0, 1) := by decide +kernel
theorem dX2_init_29 : decode cX2_init 29 = .ok (.bipush 30, 2) := by decide +kernel
theorem dX2_init_31 : decode cX2_init 31 = .ok (.newarray .int, 2) := by decide +kernel
theorem dX2_init_33 : decode cX2_init 33 = .ok (.putfield 19, 3) := by decide +kernel
theorem dX2_init_36 : decode cX2_init 36 = .ok (.aload_n 0, 1) := by decide +kernel
theorem dX2_init_37 : decode cX2_init 37 = .ok (.bipush 30, 2) := by decide +kernel
theorem dX2_init_39 : decode cX2_init 39 = .ok (.newarray .int, 2) := by decide +kernel
theorem dX2_init_41 : decode cX2_init 41 = .ok (.putfield 22, 3) := by decide +kernel
theorem dX2_init_44 : decode cX2_init 44 = .ok (.aload_n 0, 1) := by decide +kernel
theorem dX2_init_45 : decode cX2_init 45 = .ok (.bipush 30, 2) := by decide +kernel
theorem dX2_init_47 : decode cX2_init 47 = .ok (.newarray .int, 2) := by decide +kernel
theorem dX2_init_49 : decode cX2_init 49 = .ok (.putfield 25, 3) := by decide +kernel
theorem dX2_init_52 : decode cX2_init 52 = .ok (.aload_n 0, 1) := by decide +kernel
theorem dX2_init_53 : decode cX2_init 53 = .ok (.iconst 5, 1) := by decide +kernel
theorem dX2_init_54 : decode cX2_init 54 = .ok (.newarray .int, 2) := by decide +kernel
theorem dX2_init_56 : decode cX2_init 56 = .ok (.putfield 28, 3) := by decide +kernel
theorem dX2_init_59 : decode cX2_init 59 = .ok (.aload_n 0, 1) := by decide +kernel
theorem dX2_init_60 : decode cX2_init 60 = .ok (.iconst 5, 1) := by decide +kernel
theorem dX2_init_61 : decode cX2_init 61 = .ok (.newarray .boolean, 2) := by decide +kernel
theorem dX2_init_63 : decode cX2_init 63 = .ok (.putfield 31, 3) := by decide +kernel
theorem dX2_init_66 : decode cX2_init 66 = .ok (.aload_n 0, 1) := by decide +kernel
theorem dX2_init_67 : decode cX2_init 67 = .ok (.iconst 5, 1) := by decide +kernel
theorem dX2_init_68 : decode cX2_init 68 = .ok (.newarray .boolean, 2) := by decide +kernel
theorem dX2_init_70 : decode cX2_init 70 = .ok (.putfield 35, 3) := by decide +kernel
theorem dX2_init_73 : decode cX2_init 73 = .ok (.aload_n 0, 1) := by decide +kernel
theorem dX2_init_74 : decode cX2_init 74 = .ok (.iconst 2, 1) := by decide +kernel
theorem dX2_init_75 : decode cX2_init 75 = .ok (.newarray .int, 2) := by decide +kernel
theorem dX2_init_77 : decode cX2_init 77 = .ok (.putfield 38, 3) := by decide +kernel
theorem dX2_init_80 : decode cX2_init 80 = .ok (.aload_n 0, 1) := by decide +kernel
theorem dX2_init_81 : decode cX2_init 81 = .ok (.sipush 1000, 3) := by decide +kernel
theorem dX2_init_84 : decode cX2_init 84 = .ok (.newarray .int, 2) := by decide +kernel
theorem dX2_init_86 : decode cX2_init 86 = .ok (.putfield 41, 3) := by decide +kernel
theorem dX2_init_89 : decode cX2_init 89 = .ok (.aload_n 0, 1) := by decide +kernel
theorem dX2_init_90 : decode cX2_init 90 = .ok (.sipush 1000, 3) := by decide +kernel
theorem dX2_init_93 : decode cX2_init 93 = .ok (.newarray .int, 2) := by decide +kernel
theorem dX2_init_95 : decode cX2_init 95 = .ok (.putfield 44, 3) := by decide +kernel
theorem dX2_init_98 : decode cX2_init 98 = .ok (.iconst 0, 1) := by decide +kernel
theorem dX2_init_99 : decode cX2_init 99 = .ok (.istore_n 1, 1) := by decide +kernel
theorem dX2_init_100 : decode cX2_init 100 = .ok (.iload_n 1, 1) := by decide +kernel
theorem dX2_init_101 : decode cX2_init 101 = .ok (.iconst 5, 1) := by decide +kernel
theorem dX2_init_102 : decode cX2_init 102 = .ok (.if_icmp .ge 17, 3) := by decide +kernel
theorem dX2_init_105 : decode cX2_init 105 = .ok (.aload_n 0, 1) := by decide +kernel
theorem dX2_init_106 : decode cX2_init 106 = .ok (.getfield 28, 3) := by decide +kernel
theorem dX2_init_109 : decode cX2_init 109 = .ok (.iload_n 1, 1) := by decide +kernel
theorem dX2_init_110 : decode cX2_init 110 = .ok (.bipush 100, 2) := by decide +kernel
theorem dX2_init_112 : decode cX2_init 112 = .ok (.iastore, 1) := by decide +kernel
theorem dX2_init_113 : decode cX2_init 113 = .ok (.iinc 1 1, 3) := by decide +kernel
theorem dX2_init_116 : decode cX2_init 116 = .ok (.goto (-16), 3) := by decide +kernel
theorem dX2_init_119 : decode cX2_init 119 = .ok (.iconst 0, 1) := by decide +kernel
theorem dX2_init_120 : decode cX2_init 120 = .ok (.istore_n 1, 1) := by decide +kernel
theorem dX2_init_121 : decode cX2_init 121 = .ok (.iload_n 1, 1) := by decide +kernel
theorem dX2_init_122 : decode cX2_init 122 = .ok (.iconst 2, 1) := by decide +kernel
theorem dX2_init_123 : decode cX2_init 123 = .ok (.if_icmp .ge 16, 3) := by decide +kernel
theorem dX2_init_126 : decode cX2_init 126 = .ok (.aload_n 0, 1) := by decide +kernel
theorem dX2_init_127 : decode cX2_init 127 = .ok (.getfield 38, 3) := by decide +kernel
theorem dX2_init_130 : decode cX2_init 130 = .ok (.iload_n 1, 1) := by decide +kernel
theorem dX2_init_131 : decode cX2_init 131 = .ok (.iconst (-1), 1) := by decide +kernel
theorem dX2_init_132 : decode cX2_init 132 = .ok (.iastore, 1) := by decide +kernel
theorem dX2_init_133 : decode cX2_init 133 = .ok (.iinc 1 1, 3) := by decide +kernel
theorem dX2_init_136 : decode cX2_init 136 = .ok (.goto (-15), 3) := by decide +kernel
theorem dX2_init_139 : decode cX2_init 139 = .ok (.iconst 0, 1) := by decide +kernel
theorem dX2_init_140 : decode cX2_init 140 = .ok (.istore_n 1, 1) := by decide +kernel
theorem dX2_init_141 : decode cX2_init 141 = .ok (.iload_n 1, 1) := by decide +kernel
theorem dX2_init_142 : decode cX2_init 142 = .ok (.sipush 1000, 3) := by decide +kernel
theorem dX2_init_145 : decode cX2_init 145 = .ok (.if_icmp .ge 16, 3) := by decide +kernel
theorem dX2_init_148 : decode cX2_init 148 = .ok (.aload_n 0, 1) := by decide +kernel
theorem dX2_init_149 : decode cX2_init 149 = .ok (.getfield 44, 3) := by decide +kernel
theorem dX2_init_152 : decode cX2_init 152 = .ok (.iload_n 1, 1) := by decide +kernel
theorem dX2_init_153 : decode cX2_init 153 = .ok (.iconst (-1), 1) := by decide +kernel
theorem dX2_init_154 : decode cX2_init 154 = .ok (.iastore, 1) := by decide +kernel
theorem dX2_init_155 : decode cX2_init 155 = .ok (.iinc 1 1, 3) := by decide +kernel
theorem dX2_init_158 : decode cX2_init 158 = .ok (.goto (-17), 3) := by decide +kernel
theorem dX2_init_161 : decode cX2_init 161 = .ok (.aload_n 0, 1) := by decide +kernel
theorem dX2_init_162 : decode cX2_init 162 = .ok (.iconst (-1), 1) := by decide +kernel
theorem dX2_init_163 : decode cX2_init 163 = .ok (.putfield 47, 3) := by decide +kernel
theorem dX2_init_166 : decode cX2_init 166 = .ok (.return_, 1) := by decide +kernel
theorem dX2_thrown_0 : decode cX2_thrown 0 = .ok (.aload_n 0, 1) := by decide +kernel
theorem dX2_thrown_1 : decode cX2_thrown 1 = .ok (.getfield 51, 3) := by decide +kernel
theorem dX2_thrown_4 : decode cX2_thrown 4 = .ok (.ireturn, 1) := by decide +kernel
theorem dX2_in_0 : decode cX2_in 0 = .ok (.iload_n 0, 1) := by decide +kernel
theorem dX2_in_1 : decode cX2_in 1 = .ok (.iload_n 1, 1) := by decide +kernel
theorem dX2_in_2 : decode cX2_in 2 = .ok (.if_icmp .lt 12, 3) := by decide +kernel
theorem dX2_in_5 : decode cX2_in 5 = .ok (.iload_n 0, 1) := by decide +kernel
theorem dX2_in_6 : decode cX2_in 6 = .ok (.iload_n 2, 1) := by decide +kernel
theorem dX2_in_7 : decode cX2_in 7 = .ok (.if_icmp .gt 7, 3) := by decide +kernel
theorem dX2_in_10 : decode cX2_in 10 = .ok (.iconst 1, 1) := by decide +kernel
theorem dX2_in_11 : decode cX2_in 11 = .ok (.goto 4, 3) := by decide +kernel
theorem dX2_in_14 : decode cX2_in 14 = .ok (.iconst 0, 1) := by decide +kernel
theorem dX2_in_15 : decode cX2_in 15 = .ok (.ireturn, 1) := by decide +kernel
set_option maxRecDepth 20000 in
theorem ggX2_isRun_X2_in : GoodIn wsX2_isRun wsX2_in := goodIn_r _ [5] (by decide +kernel) (by decide +kernel)
set_option maxRecDepth 20000 in
theorem gX2_isRun_X2_in : GoodIn wsX2_isRun (va_wsS RX2 57 yX2_in wsX2_in) := goodIn_app (goodIn_of _ (by decide +kernel)) ggX2_isRun_X2_in
theorem dX2_isRun_0 : decode cX2_isRun 0 = .ok (.iload_n 1, 1) := by decide +kernel
theorem dX2_isRun_1 : decode cX2_isRun 1 = .ok (.iconst 0, 1) := by decide +kernel
theorem dX2_isRun_2 : decode cX2_isRun 2 = .ok (.aload_n 0, 1) := by decide +kernel
theorem dX2_isRun_3 : decode cX2_isRun 3 = .ok (.getfield 54, 3) := by decide +kernel
theorem dX2_isRun_6 : decode cX2_isRun 6 = .ok (.iconst 1, 1) := by decide +kernel
theorem dX2_isRun_7 : decode cX2_isRun 7 = .ok (.isub, 1) := by decide +kernel
theorem dX2_isRun_8 : decode cX2_isRun 8 = .ok (.invokestatic 57, 3) := by decide +kernel
theorem dX2_isRun_11 : decode cX2_isRun 11 = .ok (.ireturn, 1) := by decide +kernel
set_option maxRecDepth 20000 in
theorem ggX2_isBus_X2_in : GoodIn wsX2_isBus wsX2_in := goodIn_r _ [4] (by decide +kernel) (by decide +kernel)
set_option maxRecDepth 20000 in
theorem gX2_isBus_X2_in : GoodIn wsX2_isBus (va_wsS RX2 57 yX2_in wsX2_in) := goodIn_app (goodIn_of _ (by decide +kernel)) ggX2_isBus_X2_in
theorem dX2_isBus_0 : decode cX2_isBus 0 = .ok (.iload_n 0, 1) := by decide +kernel
theorem dX2_isBus_1 : decode cX2_isBus 1 = .ok (.iconst 0, 1) := by decide +kernel
theorem dX2_isBus_2 : decode cX2_isBus 2 = .ok (.iconst 4, 1) := by decide +kernel
theorem dX2_isBus_3 : decode cX2_isBus 3 = .ok (.invokestatic 57, 3) := by decide +kernel
theorem dX2_isBus_6 : decode cX2_isBus 6 = .ok (.ireturn, 1) := by decide +kernel
set_option maxRecDepth 20000 in
theorem ggX2_isDriver_X2_in : GoodIn wsX2_isDriver wsX2_in := goodIn_r _ [4] (by decide +kernel) (by decide +kernel)
set_option maxRecDepth 20000 in
theorem gX2_isDriver_X2_in : GoodIn wsX2_isDriver (va_wsS RX2 57 yX2_in wsX2_in) := goodIn_app (goodIn_of _ (by decide +kernel)) ggX2_isDriver_X2_in
theorem dX2_isDriver_0 : decode cX2_isDriver 0 = .ok (.iload_n 0, 1) := by decide +kernel
theorem dX2_isDriver_1 : decode cX2_isDriver 1 = .ok (.iconst 0, 1) := by decide +kernel
theorem dX2_isDriver_2 : decode cX2_isDriver 2 = .ok (.iconst 4, 1) := by decide +kernel
theorem dX2_isDriver_3 : decode cX2_isDriver 3 = .ok (.invokestatic 57, 3) := by decide +kernel
theorem dX2_isDriver_6 : decode cX2_isDriver 6 = .ok (.ireturn, 1) := by decide +kernel
theorem dX2_leads_0 : decode cX2_leads 0 = .ok (.aload_n 0, 1) := by decide +kernel
theorem dX2_leads_1 : decode cX2_leads 1 = .ok (.getfield 47, 3) := by decide +kernel
theorem dX2_leads_4 : decode cX2_leads 4 = .ok (.iconst (-1), 1) := by decide +kernel
theorem dX2_leads_5 : decode cX2_leads 5 = .ok (.if_icmp .eq 21, 3) := by decide +kernel
theorem dX2_leads_8 : decode cX2_leads 8 = .ok (.aload_n 0, 1) := by decide +kernel
theorem dX2_leads_9 : decode cX2_leads 9 = .ok (.getfield 61, 3) := by decide +kernel
theorem dX2_leads_12 : decode cX2_leads 12 = .ok (.aload_n 0, 1) := by decide +kernel
theorem dX2_leads_13 : decode cX2_leads 13 = .ok (.getfield 64, 3) := by decide +kernel
theorem dX2_leads_16 : decode cX2_leads 16 = .ok (.if_icmp .ge 10, 3) := by decide +kernel
theorem dX2_leads_19 : decode cX2_leads 19 = .ok (.aload_n 0, 1) := by decide +kernel
theorem dX2_leads_20 : decode cX2_leads 20 = .ok (.getfield 47, 3) := by decide +kernel
theorem dX2_leads_23 : decode cX2_leads 23 = .ok (.goto 4, 3) := by decide +kernel
theorem dX2_leads_26 : decode cX2_leads 26 = .ok (.iconst (-1), 1) := by decide +kernel
theorem dX2_leads_27 : decode cX2_leads 27 = .ok (.ireturn, 1) := by decide +kernel
theorem dX2_promisedOf_0 : decode cX2_promisedOf 0 = .ok (.iconst 0, 1) := by decide +kernel
theorem dX2_promisedOf_1 : decode cX2_promisedOf 1 = .ok (.istore_n 2, 1) := by decide +kernel
theorem dX2_promisedOf_2 : decode cX2_promisedOf 2 = .ok (.iconst 0, 1) := by decide +kernel
theorem dX2_promisedOf_3 : decode cX2_promisedOf 3 = .ok (.istore_n 3, 1) := by decide +kernel
theorem dX2_promisedOf_4 : decode cX2_promisedOf 4 = .ok (.iload_n 3, 1) := by decide +kernel
theorem dX2_promisedOf_5 : decode cX2_promisedOf 5 = .ok (.aload_n 0, 1) := by decide +kernel
theorem dX2_promisedOf_6 : decode cX2_promisedOf 6 = .ok (.getfield 54, 3) := by decide +kernel
theorem dX2_promisedOf_9 : decode cX2_promisedOf 9 = .ok (.if_icmp .ge 42, 3) := by decide +kernel
theorem dX2_promisedOf_12 : decode cX2_promisedOf 12 = .ok (.iload_n 2, 1) := by decide +kernel
theorem dX2_promisedOf_13 : decode cX2_promisedOf 13 = .ok (.aload_n 0, 1) := by decide +kernel
theorem dX2_promisedOf_14 : decode cX2_promisedOf 14 = .ok (.getfield 19, 3) := by decide +kernel
theorem dX2_promisedOf_17 : decode cX2_promisedOf 17 = .ok (.iload_n 3, 1) := by decide +kernel
theorem dX2_promisedOf_18 : decode cX2_promisedOf 18 = .ok (.iaload, 1) := by decide +kernel
theorem dX2_promisedOf_19 : decode cX2_promisedOf 19 = .ok (.iconst 1, 1) := by decide +kernel
theorem dX2_promisedOf_20 : decode cX2_promisedOf 20 = .ok (.if_icmp .ne 22, 3) := by decide +kernel
theorem dX2_promisedOf_23 : decode cX2_promisedOf 23 = .ok (.aload_n 0, 1) := by decide +kernel
theorem dX2_promisedOf_24 : decode cX2_promisedOf 24 = .ok (.getfield 22, 3) := by decide +kernel
theorem dX2_promisedOf_27 : decode cX2_promisedOf 27 = .ok (.iload_n 3, 1) := by decide +kernel
theorem dX2_promisedOf_28 : decode cX2_promisedOf 28 = .ok (.iaload, 1) := by decide +kernel
theorem dX2_promisedOf_29 : decode cX2_promisedOf 29 = .ok (.iload_n 1, 1) := by decide +kernel
theorem dX2_promisedOf_30 : decode cX2_promisedOf 30 = .ok (.if_icmp .ne 12, 3) := by decide +kernel
theorem dX2_promisedOf_33 : decode cX2_promisedOf 33 = .ok (.aload_n 0, 1) := by decide +kernel
theorem dX2_promisedOf_34 : decode cX2_promisedOf 34 = .ok (.getfield 16, 3) := by decide +kernel
theorem dX2_promisedOf_37 : decode cX2_promisedOf 37 = .ok (.iload_n 3, 1) := by decide +kernel
theorem dX2_promisedOf_38 : decode cX2_promisedOf 38 = .ok (.iaload, 1) := by decide +kernel
theorem dX2_promisedOf_39 : decode cX2_promisedOf 39 = .ok (.goto 4, 3) := by decide +kernel
theorem dX2_promisedOf_42 : decode cX2_promisedOf 42 = .ok (.iconst 0, 1) := by decide +kernel
theorem dX2_promisedOf_43 : decode cX2_promisedOf 43 = .ok (.iadd, 1) := by decide +kernel
theorem dX2_promisedOf_44 : decode cX2_promisedOf 44 = .ok (.istore_n 2, 1) := by decide +kernel
theorem dX2_promisedOf_45 : decode cX2_promisedOf 45 = .ok (.iinc 3 1, 3) := by decide +kernel
theorem dX2_promisedOf_48 : decode cX2_promisedOf 48 = .ok (.goto (-44), 3) := by decide +kernel
theorem dX2_promisedOf_51 : decode cX2_promisedOf 51 = .ok (.iload_n 2, 1) := by decide +kernel
theorem dX2_promisedOf_52 : decode cX2_promisedOf 52 = .ok (.ireturn, 1) := by decide +kernel
set_option maxRecDepth 20000 in
theorem ggX2_isFitBus_X2_promisedOf : GoodIn wsX2_isFitBus wsX2_promisedOf := goodIn_r _ [13, 4, 6, 5, 3, 14, 15, 16, 17, 18, 19, 20, 21, 22, 23, 24, 25, 26, 27, 28, 29, 30, 31] (by decide +kernel) (by decide +kernel)
set_option maxRecDepth 20000 in
theorem gX2_isFitBus_X2_promisedOf : GoodIn wsX2_isFitBus (wsV RX2 67 RX2 yX2_promisedOf wsX2_promisedOf) := goodIn_app (goodIn_of _ (by decide +kernel)) ggX2_isFitBus_X2_promisedOf
theorem dX2_isFitBus_0 : decode cX2_isFitBus 0 = .ok (.aload_n 0, 1) := by decide +kernel
theorem dX2_isFitBus_1 : decode cX2_isFitBus 1 = .ok (.getfield 31, 3) := by decide +kernel
theorem dX2_isFitBus_4 : decode cX2_isFitBus 4 = .ok (.iload_n 1, 1) := by decide +kernel
theorem dX2_isFitBus_5 : decode cX2_isFitBus 5 = .ok (.baload, 1) := by decide +kernel
theorem dX2_isFitBus_6 : decode cX2_isFitBus 6 = .ok (.ifCond .ne 28, 3) := by decide +kernel
theorem dX2_isFitBus_9 : decode cX2_isFitBus 9 = .ok (.aload_n 0, 1) := by decide +kernel
theorem dX2_isFitBus_10 : decode cX2_isFitBus 10 = .ok (.getfield 28, 3) := by decide +kernel
theorem dX2_isFitBus_13 : decode cX2_isFitBus 13 = .ok (.iload_n 1, 1) := by decide +kernel
theorem dX2_isFitBus_14 : decode cX2_isFitBus 14 = .ok (.iaload, 1) := by decide +kernel
theorem dX2_isFitBus_15 : decode cX2_isFitBus 15 = .ok (.aload_n 0, 1) := by decide +kernel
theorem dX2_isFitBus_16 : decode cX2_isFitBus 16 = .ok (.iload_n 1, 1) := by decide +kernel
theorem dX2_isFitBus_17 : decode cX2_isFitBus 17 = .ok (.invokevirtual 67, 3) := by decide +kernel
theorem dX2_isFitBus_20 : decode cX2_isFitBus 20 = .ok (.isub, 1) := by decide +kernel
theorem dX2_isFitBus_21 : decode cX2_isFitBus 21 = .ok (.aload_n 0, 1) := by decide +kernel
theorem dX2_isFitBus_22 : decode cX2_isFitBus 22 = .ok (.getfield 16, 3) := by decide +kernel
theorem dX2_isFitBus_25 : decode cX2_isFitBus 25 = .ok (.iload_n 2, 1) := by decide +kernel
theorem dX2_isFitBus_26 : decode cX2_isFitBus 26 = .ok (.iaload, 1) := by decide +kernel
theorem dX2_isFitBus_27 : decode cX2_isFitBus 27 = .ok (.if_icmp .lt 7, 3) := by decide +kernel
theorem dX2_isFitBus_30 : decode cX2_isFitBus 30 = .ok (.iconst 1, 1) := by decide +kernel
theorem dX2_isFitBus_31 : decode cX2_isFitBus 31 = .ok (.goto 4, 3) := by decide +kernel
theorem dX2_isFitBus_34 : decode cX2_isFitBus 34 = .ok (.iconst 0, 1) := by decide +kernel
theorem dX2_isFitBus_35 : decode cX2_isFitBus 35 = .ok (.istore_n 3, 1) := by decide +kernel
theorem dX2_isFitBus_36 : decode cX2_isFitBus 36 = .ok (.iconst 0, 1) := by decide +kernel
theorem dX2_isFitBus_37 : decode cX2_isFitBus 37 = .ok (.istore 4, 2) := by decide +kernel
theorem dX2_isFitBus_39 : decode cX2_isFitBus 39 = .ok (.iload 4, 2) := by decide +kernel
theorem dX2_isFitBus_41 : decode cX2_isFitBus 41 = .ok (.aload_n 0, 1) := by decide +kernel
theorem dX2_isFitBus_42 : decode cX2_isFitBus 42 = .ok (.getfield 54, 3) := by decide +kernel
theorem dX2_isFitBus_45 : decode cX2_isFitBus 45 = .ok (.if_icmp .ge 102, 3) := by decide +kernel
theorem dX2_isFitBus_48 : decode cX2_isFitBus 48 = .ok (.iload 4, 2) := by decide +kernel
theorem dX2_isFitBus_50 : decode cX2_isFitBus 50 = .ok (.iload_n 2, 1) := by decide +kernel
theorem dX2_isFitBus_51 : decode cX2_isFitBus 51 = .ok (.if_icmp .eq 40, 3) := by decide +kernel
theorem dX2_isFitBus_54 : decode cX2_isFitBus 54 = .ok (.aload_n 0, 1) := by decide +kernel
theorem dX2_isFitBus_55 : decode cX2_isFitBus 55 = .ok (.getfield 22, 3) := by decide +kernel
theorem dX2_isFitBus_58 : decode cX2_isFitBus 58 = .ok (.iload 4, 2) := by decide +kernel
theorem dX2_isFitBus_60 : decode cX2_isFitBus 60 = .ok (.iaload, 1) := by decide +kernel
theorem dX2_isFitBus_61 : decode cX2_isFitBus 61 = .ok (.iload_n 1, 1) := by decide +kernel
theorem dX2_isFitBus_62 : decode cX2_isFitBus 62 = .ok (.if_icmp .ne 29, 3) := by decide +kernel
theorem dX2_isFitBus_65 : decode cX2_isFitBus 65 = .ok (.aload_n 0, 1) := by decide +kernel
theorem dX2_isFitBus_66 : decode cX2_isFitBus 66 = .ok (.getfield 19, 3) := by decide +kernel
theorem dX2_isFitBus_69 : decode cX2_isFitBus 69 = .ok (.iload 4, 2) := by decide +kernel
theorem dX2_isFitBus_71 : decode cX2_isFitBus 71 = .ok (.iaload, 1) := by decide +kernel
theorem dX2_isFitBus_72 : decode cX2_isFitBus 72 = .ok (.iconst 1, 1) := by decide +kernel
theorem dX2_isFitBus_73 : decode cX2_isFitBus 73 = .ok (.if_icmp .eq 14, 3) := by decide +kernel
theorem dX2_isFitBus_76 : decode cX2_isFitBus 76 = .ok (.aload_n 0, 1) := by decide +kernel
theorem dX2_isFitBus_77 : decode cX2_isFitBus 77 = .ok (.getfield 19, 3) := by decide +kernel
theorem dX2_isFitBus_80 : decode cX2_isFitBus 80 = .ok (.iload 4, 2) := by decide +kernel
theorem dX2_isFitBus_82 : decode cX2_isFitBus 82 = .ok (.iaload, 1) := by decide +kernel
theorem dX2_isFitBus_83 : decode cX2_isFitBus 83 = .ok (.iconst 2, 1) := by decide +kernel
theorem dX2_isFitBus_84 : decode cX2_isFitBus 84 = .ok (.if_icmp .ne 7, 3) := by decide +kernel
theorem dX2_isFitBus_87 : decode cX2_isFitBus 87 = .ok (.iconst 1, 1) := by decide +kernel
theorem dX2_isFitBus_88 : decode cX2_isFitBus 88 = .ok (.goto 4, 3) := by decide +kernel
theorem dX2_isFitBus_91 : decode cX2_isFitBus 91 = .ok (.iconst 0, 1) := by decide +kernel
theorem dX2_isFitBus_92 : decode cX2_isFitBus 92 = .ok (.istore 5, 2) := by decide +kernel
theorem dX2_isFitBus_94 : decode cX2_isFitBus 94 = .ok (.iload_n 3, 1) := by decide +kernel
theorem dX2_isFitBus_95 : decode cX2_isFitBus 95 = .ok (.ifCond .eq 44, 3) := by decide +kernel
theorem dX2_isFitBus_98 : decode cX2_isFitBus 98 = .ok (.iload 5, 2) := by decide +kernel
theorem dX2_isFitBus_100 : decode cX2_isFitBus 100 = .ok (.ifCond .eq 35, 3) := by decide +kernel
theorem dX2_isFitBus_103 : decode cX2_isFitBus 103 = .ok (.aload_n 0, 1) := by decide +kernel
theorem dX2_isFitBus_104 : decode cX2_isFitBus 104 = .ok (.getfield 7, 3) := by decide +kernel
theorem dX2_isFitBus_107 : decode cX2_isFitBus 107 = .ok (.iload 4, 2) := by decide +kernel
theorem dX2_isFitBus_109 : decode cX2_isFitBus 109 = .ok (.iaload, 1) := by decide +kernel
theorem dX2_isFitBus_110 : decode cX2_isFitBus 110 = .ok (.aload_n 0, 1) := by decide +kernel
theorem dX2_isFitBus_111 : decode cX2_isFitBus 111 = .ok (.getfield 13, 3) := by decide +kernel
theorem dX2_isFitBus_114 : decode cX2_isFitBus 114 = .ok (.iload_n 2, 1) := by decide +kernel
theorem dX2_isFitBus_115 : decode cX2_isFitBus 115 = .ok (.iaload, 1) := by decide +kernel
theorem dX2_isFitBus_116 : decode cX2_isFitBus 116 = .ok (.if_icmp .ge 19, 3) := by decide +kernel
theorem dX2_isFitBus_119 : decode cX2_isFitBus 119 = .ok (.aload_n 0, 1) := by decide +kernel
theorem dX2_isFitBus_120 : decode cX2_isFitBus 120 = .ok (.getfield 7, 3) := by decide +kernel
theorem dX2_isFitBus_123 : decode cX2_isFitBus 123 = .ok (.iload_n 2, 1) := by decide +kernel
theorem dX2_isFitBus_124 : decode cX2_isFitBus 124 = .ok (.iaload, 1) := by decide +kernel
theorem dX2_isFitBus_125 : decode cX2_isFitBus 125 = .ok (.aload_n 0, 1) := by decide +kernel
theorem dX2_isFitBus_126 : decode cX2_isFitBus 126 = .ok (.getfield 13, 3) := by decide +kernel
theorem dX2_isFitBus_129 : decode cX2_isFitBus 129 = .ok (.iload 4, 2) := by decide +kernel
theorem dX2_isFitBus_131 : decode cX2_isFitBus 131 = .ok (.iaload, 1) := by decide +kernel
theorem dX2_isFitBus_132 : decode cX2_isFitBus 132 = .ok (.if_icmp .lt 7, 3) := by decide +kernel
theorem dX2_isFitBus_135 : decode cX2_isFitBus 135 = .ok (.iconst 1, 1) := by decide +kernel
theorem dX2_isFitBus_136 : decode cX2_isFitBus 136 = .ok (.goto 4, 3) := by decide +kernel
theorem dX2_isFitBus_139 : decode cX2_isFitBus 139 = .ok (.iconst 0, 1) := by decide +kernel
theorem dX2_isFitBus_140 : decode cX2_isFitBus 140 = .ok (.istore_n 3, 1) := by decide +kernel
theorem dX2_isFitBus_141 : decode cX2_isFitBus 141 = .ok (.iinc 4 1, 3) := by decide +kernel
theorem dX2_isFitBus_144 : decode cX2_isFitBus 144 = .ok (.goto (-105), 3) := by decide +kernel
theorem dX2_isFitBus_147 : decode cX2_isFitBus 147 = .ok (.iload_n 3, 1) := by decide +kernel
theorem dX2_isFitBus_148 : decode cX2_isFitBus 148 = .ok (.ireturn, 1) := by decide +kernel
theorem dX2_isWorked_0 : decode cX2_isWorked 0 = .ok (.aload_n 0, 1) := by decide +kernel
theorem dX2_isWorked_1 : decode cX2_isWorked 1 = .ok (.getfield 19, 3) := by decide +kernel
theorem dX2_isWorked_4 : decode cX2_isWorked 4 = .ok (.iload_n 1, 1) := by decide +kernel
theorem dX2_isWorked_5 : decode cX2_isWorked 5 = .ok (.iaload, 1) := by decide +kernel
theorem dX2_isWorked_6 : decode cX2_isWorked 6 = .ok (.iconst 1, 1) := by decide +kernel
theorem dX2_isWorked_7 : decode cX2_isWorked 7 = .ok (.if_icmp .eq 23, 3) := by decide +kernel
theorem dX2_isWorked_10 : decode cX2_isWorked 10 = .ok (.aload_n 0, 1) := by decide +kernel
theorem dX2_isWorked_11 : decode cX2_isWorked 11 = .ok (.getfield 19, 3) := by decide +kernel
theorem dX2_isWorked_14 : decode cX2_isWorked 14 = .ok (.iload_n 1, 1) := by decide +kernel
theorem dX2_isWorked_15 : decode cX2_isWorked 15 = .ok (.iaload, 1) := by decide +kernel
theorem dX2_isWorked_16 : decode cX2_isWorked 16 = .ok (.iconst 2, 1) := by decide +kernel
theorem dX2_isWorked_17 : decode cX2_isWorked 17 = .ok (.if_icmp .eq 13, 3) := by decide +kernel
theorem dX2_isWorked_20 : decode cX2_isWorked 20 = .ok (.aload_n 0, 1) := by decide +kernel
theorem dX2_isWorked_21 : decode cX2_isWorked 21 = .ok (.getfield 19, 3) := by decide +kernel
theorem dX2_isWorked_24 : decode cX2_isWorked 24 = .ok (.iload_n 1, 1) := by decide +kernel
theorem dX2_isWorked_25 : decode cX2_isWorked 25 = .ok (.iaload, 1) := by decide +kernel
theorem dX2_isWorked_26 : decode cX2_isWorked 26 = .ok (.iconst 3, 1) := by decide +kernel
theorem dX2_isWorked_27 : decode cX2_isWorked 27 = .ok (.if_icmp .ne 7, 3) := by decide +kernel
theorem dX2_isWorked_30 : decode cX2_isWorked 30 = .ok (.iconst 1, 1) := by decide +kernel
theorem dX2_isWorked_31 : decode cX2_isWorked 31 = .ok (.goto 4, 3) := by decide +kernel
theorem dX2_isWorked_34 : decode cX2_isWorked 34 = .ok (.iconst 0, 1) := by decide +kernel
theorem dX2_isWorked_35 : decode cX2_isWorked 35 = .ok (.ireturn, 1) := by decide +kernel
set_option maxRecDepth 20000 in
theorem ggX2_isFitDriver_X2_isWorked : GoodIn wsX2_isFitDriver wsX2_isWorked := goodIn_r _ [10, 11, 12, 13, 14, 15, 16, 17, 18, 19, 20, 21, 22, 23, 24, 25, 26, 27, 28, 29] (by decide +kernel) (by decide +kernel)
set_option maxRecDepth 20000 in
theorem gX2_isFitDriver_X2_isWorked : GoodIn wsX2_isFitDriver (wsV RX2 71 RX2 yX2_isWorked wsX2_isWorked) := goodIn_app (goodIn_of _ (by decide +kernel)) ggX2_isFitDriver_X2_isWorked
theorem dX2_isFitDriver_0 : decode cX2_isFitDriver 0 = .ok (.aload_n 0, 1) := by decide +kernel
theorem dX2_isFitDriver_1 : decode cX2_isFitDriver 1 = .ok (.getfield 35, 3) := by decide +kernel
theorem dX2_isFitDriver_4 : decode cX2_isFitDriver 4 = .ok (.iload_n 1, 1) := by decide +kernel
theorem dX2_isFitDriver_5 : decode cX2_isFitDriver 5 = .ok (.baload, 1) := by decide +kernel
theorem dX2_isFitDriver_6 : decode cX2_isFitDriver 6 = .ok (.ifCond .ne 7, 3) := by decide +kernel
theorem dX2_isFitDriver_9 : decode cX2_isFitDriver 9 = .ok (.iconst 1, 1) := by decide +kernel
theorem dX2_isFitDriver_10 : decode cX2_isFitDriver 10 = .ok (.goto 4, 3) := by decide +kernel
theorem dX2_isFitDriver_13 : decode cX2_isFitDriver 13 = .ok (.iconst 0, 1) := by decide +kernel
theorem dX2_isFitDriver_14 : decode cX2_isFitDriver 14 = .ok (.istore_n 3, 1) := by decide +kernel
theorem dX2_isFitDriver_15 : decode cX2_isFitDriver 15 = .ok (.aload_n 0, 1) := by decide +kernel
theorem dX2_isFitDriver_16 : decode cX2_isFitDriver 16 = .ok (.getfield 13, 3) := by decide +kernel
theorem dX2_isFitDriver_19 : decode cX2_isFitDriver 19 = .ok (.iload_n 2, 1) := by decide +kernel
theorem dX2_isFitDriver_20 : decode cX2_isFitDriver 20 = .ok (.iaload, 1) := by decide +kernel
theorem dX2_isFitDriver_21 : decode cX2_isFitDriver 21 = .ok (.aload_n 0, 1) := by decide +kernel
theorem dX2_isFitDriver_22 : decode cX2_isFitDriver 22 = .ok (.getfield 7, 3) := by decide +kernel
theorem dX2_isFitDriver_25 : decode cX2_isFitDriver 25 = .ok (.iload_n 2, 1) := by decide +kernel
theorem dX2_isFitDriver_26 : decode cX2_isFitDriver 26 = .ok (.iaload, 1) := by decide +kernel
theorem dX2_isFitDriver_27 : decode cX2_isFitDriver 27 = .ok (.isub, 1) := by decide +kernel
theorem dX2_isFitDriver_28 : decode cX2_isFitDriver 28 = .ok (.istore 4, 2) := by decide +kernel
theorem dX2_isFitDriver_30 : decode cX2_isFitDriver 30 = .ok (.iconst 0, 1) := by decide +kernel
theorem dX2_isFitDriver_31 : decode cX2_isFitDriver 31 = .ok (.istore 5, 2) := by decide +kernel
theorem dX2_isFitDriver_33 : decode cX2_isFitDriver 33 = .ok (.iload 5, 2) := by decide +kernel
theorem dX2_isFitDriver_35 : decode cX2_isFitDriver 35 = .ok (.aload_n 0, 1) := by decide +kernel
theorem dX2_isFitDriver_36 : decode cX2_isFitDriver 36 = .ok (.getfield 54, 3) := by decide +kernel
theorem dX2_isFitDriver_39 : decode cX2_isFitDriver 39 = .ok (.if_icmp .ge 127, 3) := by decide +kernel
theorem dX2_isFitDriver_42 : decode cX2_isFitDriver 42 = .ok (.iload 5, 2) := by decide +kernel
theorem dX2_isFitDriver_44 : decode cX2_isFitDriver 44 = .ok (.iload_n 2, 1) := by decide +kernel
theorem dX2_isFitDriver_45 : decode cX2_isFitDriver 45 = .ok (.if_icmp .eq 115, 3) := by decide +kernel
theorem dX2_isFitDriver_48 : decode cX2_isFitDriver 48 = .ok (.aload_n 0, 1) := by decide +kernel
theorem dX2_isFitDriver_49 : decode cX2_isFitDriver 49 = .ok (.getfield 25, 3) := by decide +kernel
theorem dX2_isFitDriver_52 : decode cX2_isFitDriver 52 = .ok (.iload 5, 2) := by decide +kernel
theorem dX2_isFitDriver_54 : decode cX2_isFitDriver 54 = .ok (.iaload, 1) := by decide +kernel
theorem dX2_isFitDriver_55 : decode cX2_isFitDriver 55 = .ok (.iload_n 1, 1) := by decide +kernel
theorem dX2_isFitDriver_56 : decode cX2_isFitDriver 56 = .ok (.if_icmp .ne 104, 3) := by decide +kernel
theorem dX2_isFitDriver_59 : decode cX2_isFitDriver 59 = .ok (.aload_n 0, 1) := by decide +kernel
theorem dX2_isFitDriver_60 : decode cX2_isFitDriver 60 = .ok (.iload 5, 2) := by decide +kernel
theorem dX2_isFitDriver_62 : decode cX2_isFitDriver 62 = .ok (.invokevirtual 71, 3) := by decide +kernel
theorem dX2_isFitDriver_65 : decode cX2_isFitDriver 65 = .ok (.ifCond .eq 95, 3) := by decide +kernel
theorem dX2_isFitDriver_68 : decode cX2_isFitDriver 68 = .ok (.aload_n 0, 1) := by decide +kernel
theorem dX2_isFitDriver_69 : decode cX2_isFitDriver 69 = .ok (.getfield 7, 3) := by decide +kernel
theorem dX2_isFitDriver_72 : decode cX2_isFitDriver 72 = .ok (.iload 5, 2) := by decide +kernel
theorem dX2_isFitDriver_74 : decode cX2_isFitDriver 74 = .ok (.iaload, 1) := by decide +kernel
theorem dX2_isFitDriver_75 : decode cX2_isFitDriver 75 = .ok (.sipush 1440, 3) := by decide +kernel
theorem dX2_isFitDriver_78 : decode cX2_isFitDriver 78 = .ok (.idiv, 1) := by decide +kernel
theorem dX2_isFitDriver_79 : decode cX2_isFitDriver 79 = .ok (.aload_n 0, 1) := by decide +kernel
theorem dX2_isFitDriver_80 : decode cX2_isFitDriver 80 = .ok (.getfield 7, 3) := by decide +kernel
theorem dX2_isFitDriver_83 : decode cX2_isFitDriver 83 = .ok (.iload_n 2, 1) := by decide +kernel
theorem dX2_isFitDriver_84 : decode cX2_isFitDriver 84 = .ok (.iaload, 1) := by decide +kernel
theorem dX2_isFitDriver_85 : decode cX2_isFitDriver 85 = .ok (.sipush 1440, 3) := by decide +kernel
theorem dX2_isFitDriver_88 : decode cX2_isFitDriver 88 = .ok (.idiv, 1) := by decide +kernel
theorem dX2_isFitDriver_89 : decode cX2_isFitDriver 89 = .ok (.if_icmp .ne 71, 3) := by decide +kernel
theorem dX2_isFitDriver_92 : decode cX2_isFitDriver 92 = .ok (.iload 4, 2) := by decide +kernel
theorem dX2_isFitDriver_94 : decode cX2_isFitDriver 94 = .ok (.aload_n 0, 1) := by decide +kernel
theorem dX2_isFitDriver_95 : decode cX2_isFitDriver 95 = .ok (.getfield 13, 3) := by decide +kernel
theorem dX2_isFitDriver_98 : decode cX2_isFitDriver 98 = .ok (.iload 5, 2) := by decide +kernel
theorem dX2_isFitDriver_100 : decode cX2_isFitDriver 100 = .ok (.iaload, 1) := by decide +kernel
theorem dX2_isFitDriver_101 : decode cX2_isFitDriver 101 = .ok (.aload_n 0, 1) := by decide +kernel
theorem dX2_isFitDriver_102 : decode cX2_isFitDriver 102 = .ok (.getfield 7, 3) := by decide +kernel
theorem dX2_isFitDriver_105 : decode cX2_isFitDriver 105 = .ok (.iload 5, 2) := by decide +kernel
theorem dX2_isFitDriver_107 : decode cX2_isFitDriver 107 = .ok (.iaload, 1) := by decide +kernel
theorem dX2_isFitDriver_108 : decode cX2_isFitDriver 108 = .ok (.isub, 1) := by decide +kernel
theorem dX2_isFitDriver_109 : decode cX2_isFitDriver 109 = .ok (.iadd, 1) := by decide +kernel
theorem dX2_isFitDriver_110 : decode cX2_isFitDriver 110 = .ok (.istore 4, 2) := by decide +kernel
theorem dX2_isFitDriver_112 : decode cX2_isFitDriver 112 = .ok (.iload_n 3, 1) := by decide +kernel
theorem dX2_isFitDriver_113 : decode cX2_isFitDriver 113 = .ok (.ifCond .eq 45, 3) := by decide +kernel
theorem dX2_isFitDriver_116 : decode cX2_isFitDriver 116 = .ok (.aload_n 0, 1) := by decide +kernel
theorem dX2_isFitDriver_117 : decode cX2_isFitDriver 117 = .ok (.getfield 13, 3) := by decide +kernel
theorem dX2_isFitDriver_120 : decode cX2_isFitDriver 120 = .ok (.iload 5, 2) := by decide +kernel
theorem dX2_isFitDriver_122 : decode cX2_isFitDriver 122 = .ok (.iaload, 1) := by decide +kernel
theorem dX2_isFitDriver_123 : decode cX2_isFitDriver 123 = .ok (.bipush 30, 2) := by decide +kernel
theorem dX2_isFitDriver_125 : decode cX2_isFitDriver 125 = .ok (.iadd, 1) := by decide +kernel
theorem dX2_isFitDriver_126 : decode cX2_isFitDriver 126 = .ok (.aload_n 0, 1) := by decide +kernel
theorem dX2_isFitDriver_127 : decode cX2_isFitDriver 127 = .ok (.getfield 7, 3) := by decide +kernel
theorem dX2_isFitDriver_130 : decode cX2_isFitDriver 130 = .ok (.iload_n 2, 1) := by decide +kernel
theorem dX2_isFitDriver_131 : decode cX2_isFitDriver 131 = .ok (.iaload, 1) := by decide +kernel
theorem dX2_isFitDriver_132 : decode cX2_isFitDriver 132 = .ok (.if_icmp .le 22, 3) := by decide +kernel
theorem dX2_isFitDriver_135 : decode cX2_isFitDriver 135 = .ok (.aload_n 0, 1) := by decide +kernel
theorem dX2_isFitDriver_136 : decode cX2_isFitDriver 136 = .ok (.getfield 13, 3) := by decide +kernel
theorem dX2_isFitDriver_139 : decode cX2_isFitDriver 139 = .ok (.iload_n 2, 1) := by decide +kernel
theorem dX2_isFitDriver_140 : decode cX2_isFitDriver 140 = .ok (.iaload, 1) := by decide +kernel
theorem dX2_isFitDriver_141 : decode cX2_isFitDriver 141 = .ok (.bipush 30, 2) := by decide +kernel
theorem dX2_isFitDriver_143 : decode cX2_isFitDriver 143 = .ok (.iadd, 1) := by decide +kernel
theorem dX2_isFitDriver_144 : decode cX2_isFitDriver 144 = .ok (.aload_n 0, 1) := by decide +kernel
theorem dX2_isFitDriver_145 : decode cX2_isFitDriver 145 = .ok (.getfield 7, 3) := by decide +kernel
theorem dX2_isFitDriver_148 : decode cX2_isFitDriver 148 = .ok (.iload 5, 2) := by decide +kernel
theorem dX2_isFitDriver_150 : decode cX2_isFitDriver 150 = .ok (.iaload, 1) := by decide +kernel
theorem dX2_isFitDriver_151 : decode cX2_isFitDriver 151 = .ok (.if_icmp .gt 7, 3) := by decide +kernel
theorem dX2_isFitDriver_154 : decode cX2_isFitDriver 154 = .ok (.iconst 1, 1) := by decide +kernel
theorem dX2_isFitDriver_155 : decode cX2_isFitDriver 155 = .ok (.goto 4, 3) := by decide +kernel
theorem dX2_isFitDriver_158 : decode cX2_isFitDriver 158 = .ok (.iconst 0, 1) := by decide +kernel
theorem dX2_isFitDriver_159 : decode cX2_isFitDriver 159 = .ok (.istore_n 3, 1) := by decide +kernel
theorem dX2_isFitDriver_160 : decode cX2_isFitDriver 160 = .ok (.iinc 5 1, 3) := by decide +kernel
theorem dX2_isFitDriver_163 : decode cX2_isFitDriver 163 = .ok (.goto (-130), 3) := by decide +kernel
theorem dX2_isFitDriver_166 : decode cX2_isFitDriver 166 = .ok (.iload_n 3, 1) := by decide +kernel
theorem dX2_isFitDriver_167 : decode cX2_isFitDriver 167 = .ok (.ifCond .eq 15, 3) := by decide +kernel
theorem dX2_isFitDriver_170 : decode cX2_isFitDriver 170 = .ok (.iload 4, 2) := by decide +kernel
theorem dX2_isFitDriver_172 : decode cX2_isFitDriver 172 = .ok (.sipush 480, 3) := by decide +kernel
theorem dX2_isFitDriver_175 : decode cX2_isFitDriver 175 = .ok (.if_icmp .gt 7, 3) := by decide +kernel
theorem dX2_isFitDriver_178 : decode cX2_isFitDriver 178 = .ok (.iconst 1, 1) := by decide +kernel
theorem dX2_isFitDriver_179 : decode cX2_isFitDriver 179 = .ok (.goto 4, 3) := by decide +kernel
theorem dX2_isFitDriver_182 : decode cX2_isFitDriver 182 = .ok (.iconst 0, 1) := by decide +kernel
theorem dX2_isFitDriver_183 : decode cX2_isFitDriver 183 = .ok (.ireturn, 1) := by decide +kernel
set_option maxRecDepth 20000 in
theorem ggX2_run_X2_in : GoodIn wsX2_run wsX2_in := goodIn_r _ [11] (by decide +kernel) (by decide +kernel)
set_option maxRecDepth 20000 in
theorem gX2_run_X2_in : GoodIn wsX2_run (va_wsS RX2 57 yX2_in wsX2_in) := goodIn_app (goodIn_of _ (by decide +kernel)) ggX2_run_X2_in
set_option maxRecDepth 20000 in
theorem ggX2_run_X2_free : GoodIn wsX2_run wsX2_free := goodIn_r _ [15, 16, 17, 18, 19, 20, 21, 22, 23, 24, 25, 26, 27, 28, 29, 30, 31, 32, 33, 34, 35] (by decide +kernel) (by decide +kernel)
set_option maxRecDepth 20000 in
theorem gX2_run_X2_free : GoodIn wsX2_run (wsV RX2 75 RX2 yX2_free wsX2_free) := goodIn_app (goodIn_of _ (by decide +kernel)) ggX2_run_X2_free
theorem dX2_run_0 : decode cX2_run 0 = .ok (.aload_n 0, 1) := by decide +kernel
theorem dX2_run_1 : decode cX2_run 1 = .ok (.iload_n 1, 1) := by decide +kernel
theorem dX2_run_2 : decode cX2_run 2 = .ok (.aload_n 0, 1) := by decide +kernel
theorem dX2_run_3 : decode cX2_run 3 = .ok (.getfield 61, 3) := by decide +kernel
theorem dX2_run_6 : decode cX2_run 6 = .ok (.iconst 1, 1) := by decide +kernel
theorem dX2_run_7 : decode cX2_run 7 = .ok (.iadd, 1) := by decide +kernel
theorem dX2_run_8 : decode cX2_run 8 = .ok (.sipush 20000, 3) := by decide +kernel
theorem dX2_run_11 : decode cX2_run 11 = .ok (.invokestatic 57, 3) := by decide +kernel
theorem dX2_run_14 : decode cX2_run 14 = .ok (.ifCond .eq 37, 3) := by decide +kernel
theorem dX2_run_17 : decode cX2_run 17 = .ok (.iload_n 2, 1) := by decide +kernel
theorem dX2_run_18 : decode cX2_run 18 = .ok (.iconst 1, 1) := by decide +kernel
theorem dX2_run_19 : decode cX2_run 19 = .ok (.sipush 600, 3) := by decide +kernel
theorem dX2_run_22 : decode cX2_run 22 = .ok (.invokestatic 57, 3) := by decide +kernel
theorem dX2_run_25 : decode cX2_run 25 = .ok (.ifCond .eq 26, 3) := by decide +kernel
theorem dX2_run_28 : decode cX2_run 28 = .ok (.iload_n 1, 1) := by decide +kernel
theorem dX2_run_29 : decode cX2_run 29 = .ok (.sipush 1440, 3) := by decide +kernel
theorem dX2_run_32 : decode cX2_run 32 = .ok (.irem, 1) := by decide +kernel
theorem dX2_run_33 : decode cX2_run 33 = .ok (.iload_n 2, 1) := by decide +kernel
theorem dX2_run_34 : decode cX2_run 34 = .ok (.iadd, 1) := by decide +kernel
theorem dX2_run_35 : decode cX2_run 35 = .ok (.sipush 1440, 3) := by decide +kernel
theorem dX2_run_38 : decode cX2_run 38 = .ok (.if_icmp .gt 13, 3) := by decide +kernel
theorem dX2_run_41 : decode cX2_run 41 = .ok (.iload_n 3, 1) := by decide +kernel
theorem dX2_run_42 : decode cX2_run 42 = .ok (.iconst 0, 1) := by decide +kernel
theorem dX2_run_43 : decode cX2_run 43 = .ok (.bipush 100, 2) := by decide +kernel
theorem dX2_run_45 : decode cX2_run 45 = .ok (.invokestatic 57, 3) := by decide +kernel
theorem dX2_run_48 : decode cX2_run 48 = .ok (.ifCond .ne 7, 3) := by decide +kernel
theorem dX2_run_51 : decode cX2_run 51 = .ok (.iconst 1, 1) := by decide +kernel
theorem dX2_run_52 : decode cX2_run 52 = .ok (.goto 17, 3) := by decide +kernel
theorem dX2_run_55 : decode cX2_run 55 = .ok (.aload_n 0, 1) := by decide +kernel
theorem dX2_run_56 : decode cX2_run 56 = .ok (.getfield 54, 3) := by decide +kernel
theorem dX2_run_59 : decode cX2_run 59 = .ok (.bipush 30, 2) := by decide +kernel
theorem dX2_run_61 : decode cX2_run 61 = .ok (.if_icmp .ne 7, 3) := by decide +kernel
theorem dX2_run_64 : decode cX2_run 64 = .ok (.iconst 2, 1) := by decide +kernel
theorem dX2_run_65 : decode cX2_run 65 = .ok (.goto 4, 3) := by decide +kernel
theorem dX2_run_68 : decode cX2_run 68 = .ok (.iconst 0, 1) := by decide +kernel
theorem dX2_run_69 : decode cX2_run 69 = .ok (.putfield 51, 3) := by decide +kernel
theorem dX2_run_72 : decode cX2_run 72 = .ok (.aload_n 0, 1) := by decide +kernel
theorem dX2_run_73 : decode cX2_run 73 = .ok (.getfield 51, 3) := by decide +kernel
theorem dX2_run_76 : decode cX2_run 76 = .ok (.ifCond .le 5, 3) := by decide +kernel
theorem dX2_run_79 : decode cX2_run 79 = .ok (.iconst 0, 1) := by decide +kernel
theorem dX2_run_80 : decode cX2_run 80 = .ok (.ireturn, 1) := by decide +kernel
theorem dX2_run_81 : decode cX2_run 81 = .ok (.aload_n 0, 1) := by decide +kernel
theorem dX2_run_82 : decode cX2_run 82 = .ok (.getfield 7, 3) := by decide +kernel
theorem dX2_run_85 : decode cX2_run 85 = .ok (.aload_n 0, 1) := by decide +kernel
theorem dX2_run_86 : decode cX2_run 86 = .ok (.getfield 54, 3) := by decide +kernel
theorem dX2_run_89 : decode cX2_run 89 = .ok (.iload_n 1, 1) := by decide +kernel
theorem dX2_run_90 : decode cX2_run 90 = .ok (.iastore, 1) := by decide +kernel
theorem dX2_run_91 : decode cX2_run 91 = .ok (.aload_n 0, 1) := by decide +kernel
theorem dX2_run_92 : decode cX2_run 92 = .ok (.getfield 13, 3) := by decide +kernel
theorem dX2_run_95 : decode cX2_run 95 = .ok (.aload_n 0, 1) := by decide +kernel
theorem dX2_run_96 : decode cX2_run 96 = .ok (.getfield 54, 3) := by decide +kernel
theorem dX2_run_99 : decode cX2_run 99 = .ok (.iload_n 1, 1) := by decide +kernel
theorem dX2_run_100 : decode cX2_run 100 = .ok (.iload_n 2, 1) := by decide +kernel
theorem dX2_run_101 : decode cX2_run 101 = .ok (.iadd, 1) := by decide +kernel
theorem dX2_run_102 : decode cX2_run 102 = .ok (.iastore, 1) := by decide +kernel
theorem dX2_run_103 : decode cX2_run 103 = .ok (.aload_n 0, 1) := by decide +kernel
theorem dX2_run_104 : decode cX2_run 104 = .ok (.getfield 16, 3) := by decide +kernel
theorem dX2_run_107 : decode cX2_run 107 = .ok (.aload_n 0, 1) := by decide +kernel
theorem dX2_run_108 : decode cX2_run 108 = .ok (.getfield 54, 3) := by decide +kernel
theorem dX2_run_111 : decode cX2_run 111 = .ok (.iload_n 3, 1) := by decide +kernel
theorem dX2_run_112 : decode cX2_run 112 = .ok (.iastore, 1) := by decide +kernel
theorem dX2_run_113 : decode cX2_run 113 = .ok (.aload_n 0, 1) := by decide +kernel
theorem dX2_run_114 : decode cX2_run 114 = .ok (.getfield 19, 3) := by decide +kernel
theorem dX2_run_117 : decode cX2_run 117 = .ok (.aload_n 0, 1) := by decide +kernel
theorem dX2_run_118 : decode cX2_run 118 = .ok (.getfield 54, 3) := by decide +kernel
theorem dX2_run_121 : decode cX2_run 121 = .ok (.iconst 0, 1) := by decide +kernel
theorem dX2_run_122 : decode cX2_run 122 = .ok (.iastore, 1) := by decide +kernel
theorem dX2_run_123 : decode cX2_run 123 = .ok (.aload_n 0, 1) := by decide +kernel
theorem dX2_run_124 : decode cX2_run 124 = .ok (.aload_n 0, 1) := by decide +kernel
theorem dX2_run_125 : decode cX2_run 125 = .ok (.getfield 54, 3) := by decide +kernel
theorem dX2_run_128 : decode cX2_run 128 = .ok (.invokevirtual 75, 3) := by decide +kernel
theorem dX2_run_131 : decode cX2_run 131 = .ok (.aload_n 0, 1) := by decide +kernel
theorem dX2_run_132 : decode cX2_run 132 = .ok (.dup, 1) := by decide +kernel
theorem dX2_run_133 : decode cX2_run 133 = .ok (.getfield 54, 3) := by decide +kernel
theorem dX2_run_136 : decode cX2_run 136 = .ok (.iconst 1, 1) := by decide +kernel
theorem dX2_run_137 : decode cX2_run 137 = .ok (.iadd, 1) := by decide +kernel
theorem dX2_run_138 : decode cX2_run 138 = .ok (.putfield 54, 3) := by decide +kernel
theorem dX2_run_141 : decode cX2_run 141 = .ok (.aload_n 0, 1) := by decide +kernel
theorem dX2_run_142 : decode cX2_run 142 = .ok (.getfield 54, 3) := by decide +kernel
theorem dX2_run_145 : decode cX2_run 145 = .ok (.iconst 1, 1) := by decide +kernel
theorem dX2_run_146 : decode cX2_run 146 = .ok (.isub, 1) := by decide +kernel
theorem dX2_run_147 : decode cX2_run 147 = .ok (.ireturn, 1) := by decide +kernel
theorem dX2_free_0 : decode cX2_free 0 = .ok (.aload_n 0, 1) := by decide +kernel
theorem dX2_free_1 : decode cX2_free 1 = .ok (.getfield 22, 3) := by decide +kernel
theorem dX2_free_4 : decode cX2_free 4 = .ok (.iload_n 1, 1) := by decide +kernel
theorem dX2_free_5 : decode cX2_free 5 = .ok (.iconst (-1), 1) := by decide +kernel
theorem dX2_free_6 : decode cX2_free 6 = .ok (.iastore, 1) := by decide +kernel
theorem dX2_free_7 : decode cX2_free 7 = .ok (.aload_n 0, 1) := by decide +kernel
theorem dX2_free_8 : decode cX2_free 8 = .ok (.getfield 25, 3) := by decide +kernel
theorem dX2_free_11 : decode cX2_free 11 = .ok (.iload_n 1, 1) := by decide +kernel
theorem dX2_free_12 : decode cX2_free 12 = .ok (.iconst (-1), 1) := by decide +kernel
theorem dX2_free_13 : decode cX2_free 13 = .ok (.iastore, 1) := by decide +kernel
theorem dX2_free_14 : decode cX2_free 14 = .ok (.return_, 1) := by decide +kernel
set_option maxRecDepth 20000 in
theorem ggX2_lead_X2_in : GoodIn wsX2_lead wsX2_in := goodIn_r _ [8] (by decide +kernel) (by decide +kernel)
set_option maxRecDepth 20000 in
theorem gX2_lead_X2_in : GoodIn wsX2_lead (va_wsS RX2 57 yX2_in wsX2_in) := goodIn_app (goodIn_of _ (by decide +kernel)) ggX2_lead_X2_in
set_option maxRecDepth 20000 in
theorem ggX2_lead_X2_leads : GoodIn wsX2_lead wsX2_leads := goodIn_r _ [12, 2, 3, 4, 13, 14, 15, 16, 17, 18, 19, 20, 21, 22, 23, 24, 25, 26, 27, 28, 29, 30] (by decide +kernel) (by decide +kernel)
set_option maxRecDepth 20000 in
theorem gX2_lead_X2_leads : GoodIn wsX2_lead (wsV RX2 79 RX2 yX2_leads wsX2_leads) := goodIn_app (goodIn_of _ (by decide +kernel)) ggX2_lead_X2_leads
theorem dX2_lead_0 : decode cX2_lead 0 = .ok (.aload_n 0, 1) := by decide +kernel
theorem dX2_lead_1 : decode cX2_lead 1 = .ok (.iload_n 1, 1) := by decide +kernel
theorem dX2_lead_2 : decode cX2_lead 2 = .ok (.iconst 0, 1) := by decide +kernel
theorem dX2_lead_3 : decode cX2_lead 3 = .ok (.iconst 1, 1) := by decide +kernel
theorem dX2_lead_4 : decode cX2_lead 4 = .ok (.invokestatic 57, 3) := by decide +kernel
theorem dX2_lead_7 : decode cX2_lead 7 = .ok (.ifCond .ne 7, 3) := by decide +kernel
theorem dX2_lead_10 : decode cX2_lead 10 = .ok (.iconst 1, 1) := by decide +kernel
theorem dX2_lead_11 : decode cX2_lead 11 = .ok (.goto 19, 3) := by decide +kernel
theorem dX2_lead_14 : decode cX2_lead 14 = .ok (.iload_n 2, 1) := by decide +kernel
theorem dX2_lead_15 : decode cX2_lead 15 = .ok (.iconst 1, 1) := by decide +kernel
theorem dX2_lead_16 : decode cX2_lead 16 = .ok (.sipush 1000, 3) := by decide +kernel
theorem dX2_lead_19 : decode cX2_lead 19 = .ok (.invokestatic 57, 3) := by decide +kernel
theorem dX2_lead_22 : decode cX2_lead 22 = .ok (.ifCond .ne 7, 3) := by decide +kernel
theorem dX2_lead_25 : decode cX2_lead 25 = .ok (.iconst 2, 1) := by decide +kernel
theorem dX2_lead_26 : decode cX2_lead 26 = .ok (.goto 4, 3) := by decide +kernel
theorem dX2_lead_29 : decode cX2_lead 29 = .ok (.iconst 0, 1) := by decide +kernel
theorem dX2_lead_30 : decode cX2_lead 30 = .ok (.putfield 51, 3) := by decide +kernel
theorem dX2_lead_33 : decode cX2_lead 33 = .ok (.aload_n 0, 1) := by decide +kernel
theorem dX2_lead_34 : decode cX2_lead 34 = .ok (.getfield 51, 3) := by decide +kernel
theorem dX2_lead_37 : decode cX2_lead 37 = .ok (.ifCond .gt 19, 3) := by decide +kernel
theorem dX2_lead_40 : decode cX2_lead 40 = .ok (.aload_n 0, 1) := by decide +kernel
theorem dX2_lead_41 : decode cX2_lead 41 = .ok (.invokevirtual 79, 3) := by decide +kernel
theorem dX2_lead_44 : decode cX2_lead 44 = .ok (.iconst (-1), 1) := by decide +kernel
theorem dX2_lead_45 : decode cX2_lead 45 = .ok (.if_icmp .eq 13, 3) := by decide +kernel
theorem dX2_lead_48 : decode cX2_lead 48 = .ok (.aload_n 0, 1) := by decide +kernel
theorem dX2_lead_49 : decode cX2_lead 49 = .ok (.invokevirtual 79, 3) := by decide +kernel
theorem dX2_lead_52 : decode cX2_lead 52 = .ok (.iload_n 1, 1) := by decide +kernel
theorem dX2_lead_53 : decode cX2_lead 53 = .ok (.if_icmp .eq 5, 3) := by decide +kernel
theorem dX2_lead_56 : decode cX2_lead 56 = .ok (.iconst 0, 1) := by decide +kernel
theorem dX2_lead_57 : decode cX2_lead 57 = .ok (.ireturn, 1) := by decide +kernel
theorem dX2_lead_58 : decode cX2_lead 58 = .ok (.aload_n 0, 1) := by decide +kernel
theorem dX2_lead_59 : decode cX2_lead 59 = .ok (.iload_n 1, 1) := by decide +kernel
theorem dX2_lead_60 : decode cX2_lead 60 = .ok (.putfield 47, 3) := by decide +kernel
theorem dX2_lead_63 : decode cX2_lead 63 = .ok (.aload_n 0, 1) := by decide +kernel
theorem dX2_lead_64 : decode cX2_lead 64 = .ok (.aload_n 0, 1) := by decide +kernel
theorem dX2_lead_65 : decode cX2_lead 65 = .ok (.getfield 61, 3) := by decide +kernel
theorem dX2_lead_68 : decode cX2_lead 68 = .ok (.iload_n 2, 1) := by decide +kernel
theorem dX2_lead_69 : decode cX2_lead 69 = .ok (.iadd, 1) := by decide +kernel
theorem dX2_lead_70 : decode cX2_lead 70 = .ok (.putfield 64, 3) := by decide +kernel
theorem dX2_lead_73 : decode cX2_lead 73 = .ok (.iconst 1, 1) := by decide +kernel
theorem dX2_lead_74 : decode cX2_lead 74 = .ok (.ireturn, 1) := by decide +kernel
set_option maxRecDepth 20000 in
theorem ggX2_order_X2_in : GoodIn wsX2_order wsX2_in := goodIn_r _ [13] (by decide +kernel) (by decide +kernel)
set_option maxRecDepth 20000 in
theorem gX2_order_X2_in : GoodIn wsX2_order (va_wsS RX2 57 yX2_in wsX2_in) := goodIn_app (goodIn_of _ (by decide +kernel)) ggX2_order_X2_in
set_option maxRecDepth 20000 in
theorem ggX2_order_X2_isRun : GoodIn wsX2_order wsX2_isRun := goodIn_r _ [17, 18, 10, 11, 12, 13, 52, 53, 54, 55, 56, 57, 58, 59, 60, 61, 62, 63, 64, 65, 66, 67, 68, 69] (by decide +kernel) (by decide +kernel)
set_option maxRecDepth 20000 in
theorem gX2_order_X2_isRun : GoodIn wsX2_order (wsV RX2 83 RX2 yX2_isRun wsX2_isRun) := goodIn_app (goodIn_of _ (by decide +kernel)) ggX2_order_X2_isRun
set_option maxRecDepth 20000 in
theorem ggX2_order_X2_isBus : GoodIn wsX2_order wsX2_isBus := goodIn_r _ [21, 10, 11, 12, 13] (by decide +kernel) (by decide +kernel)
set_option maxRecDepth 20000 in
theorem gX2_order_X2_isBus : GoodIn wsX2_order (va_wsS RX2 86 yX2_isBus wsX2_isBus) := goodIn_app (goodIn_of _ (by decide +kernel)) ggX2_order_X2_isBus
set_option maxRecDepth 20000 in
theorem ggX2_order_X2_isDriver : GoodIn wsX2_order wsX2_isDriver := goodIn_r _ [24, 10, 11, 12, 13] (by decide +kernel) (by decide +kernel)
set_option maxRecDepth 20000 in
theorem gX2_order_X2_isDriver : GoodIn wsX2_order (va_wsS RX2 89 yX2_isDriver wsX2_isDriver) := goodIn_app (goodIn_of _ (by decide +kernel)) ggX2_order_X2_isDriver
set_option maxRecDepth 20000 in
theorem ggX2_order_X2_leads : GoodIn wsX2_order wsX2_leads := goodIn_r _ [28, 29, 5, 30, 52, 53, 54, 55, 56, 57, 58, 59, 60, 61, 62, 63, 64, 65, 66, 67, 68, 69] (by decide +kernel) (by decide +kernel)
set_option maxRecDepth 20000 in
theorem gX2_order_X2_leads : GoodIn wsX2_order (wsV RX2 79 RX2 yX2_leads wsX2_leads) := goodIn_app (goodIn_of _ (by decide +kernel)) ggX2_order_X2_leads
set_option maxRecDepth 20000 in
theorem ggX2_order_X2_isFitBus : GoodIn wsX2_order wsX2_isFitBus := goodIn_r _ [34, 35, 36, 37, 18, 6, 3, 4, 38, 39, 40, 41, 12, 42, 52, 53, 54, 55, 56, 57, 58, 59, 60, 61, 62, 63, 64, 65, 66, 67, 68, 69] (by decide +kernel) (by decide +kernel)
set_option maxRecDepth 20000 in
theorem gX2_order_X2_isFitBus : GoodIn wsX2_order (wsV RX2 92 RX2 yX2_isFitBus wsX2_isFitBus) := goodIn_app (goodIn_of _ (by decide +kernel)) ggX2_order_X2_isFitBus
set_option maxRecDepth 20000 in
theorem ggX2_order_X2_isFitDriver : GoodIn wsX2_order wsX2_isFitDriver := goodIn_r _ [46, 47, 38, 4, 18, 7, 48, 49, 50, 12, 51, 3, 52, 53, 54, 55, 56, 57, 58, 59, 60, 61, 62, 63, 64, 65, 66, 67, 68, 69] (by decide +kernel) (by decide +kernel)
set_option maxRecDepth 20000 in
theorem gX2_order_X2_isFitDriver : GoodIn wsX2_order (wsV RX2 96 RX2 yX2_isFitDriver wsX2_isFitDriver) := goodIn_app (goodIn_of _ (by decide +kernel)) ggX2_order_X2_isFitDriver
theorem dX2_order_0 : decode cX2_order 0 = .ok (.aload_n 0, 1) := by decide +kernel
theorem dX2_order_1 : decode cX2_order 1 = .ok (.iload_n 1, 1) := by decide +kernel
theorem dX2_order_2 : decode cX2_order 2 = .ok (.iconst 0, 1) := by decide +kernel
theorem dX2_order_3 : decode cX2_order 3 = .ok (.iconst 1, 1) := by decide +kernel
theorem dX2_order_4 : decode cX2_order 4 = .ok (.invokestatic 57, 3) := by decide +kernel
theorem dX2_order_7 : decode cX2_order 7 = .ok (.ifCond .eq 27, 3) := by decide +kernel
theorem dX2_order_10 : decode cX2_order 10 = .ok (.aload_n 0, 1) := by decide +kernel
theorem dX2_order_11 : decode cX2_order 11 = .ok (.iload_n 3, 1) := by decide +kernel
theorem dX2_order_12 : decode cX2_order 12 = .ok (.invokevirtual 83, 3) := by decide +kernel
theorem dX2_order_15 : decode cX2_order 15 = .ok (.ifCond .eq 19, 3) := by decide +kernel
theorem dX2_order_18 : decode cX2_order 18 = .ok (.iload 4, 2) := by decide +kernel
theorem dX2_order_20 : decode cX2_order 20 = .ok (.invokestatic 86, 3) := by decide +kernel
theorem dX2_order_23 : decode cX2_order 23 = .ok (.ifCond .eq 11, 3) := by decide +kernel
theorem dX2_order_26 : decode cX2_order 26 = .ok (.iload 5, 2) := by decide +kernel
theorem dX2_order_28 : decode cX2_order 28 = .ok (.invokestatic 89, 3) := by decide +kernel
theorem dX2_order_31 : decode cX2_order 31 = .ok (.ifCond .ne 7, 3) := by decide +kernel
theorem dX2_order_34 : decode cX2_order 34 = .ok (.iconst 1, 1) := by decide +kernel
theorem dX2_order_35 : decode cX2_order 35 = .ok (.goto 19, 3) := by decide +kernel
theorem dX2_order_38 : decode cX2_order 38 = .ok (.iload_n 2, 1) := by decide +kernel
theorem dX2_order_39 : decode cX2_order 39 = .ok (.iconst 0, 1) := by decide +kernel
theorem dX2_order_40 : decode cX2_order 40 = .ok (.sipush 999, 3) := by decide +kernel
theorem dX2_order_43 : decode cX2_order 43 = .ok (.invokestatic 57, 3) := by decide +kernel
theorem dX2_order_46 : decode cX2_order 46 = .ok (.ifCond .ne 7, 3) := by decide +kernel
theorem dX2_order_49 : decode cX2_order 49 = .ok (.iconst 2, 1) := by decide +kernel
theorem dX2_order_50 : decode cX2_order 50 = .ok (.goto 4, 3) := by decide +kernel
theorem dX2_order_53 : decode cX2_order 53 = .ok (.iconst 0, 1) := by decide +kernel
theorem dX2_order_54 : decode cX2_order 54 = .ok (.putfield 51, 3) := by decide +kernel
theorem dX2_order_57 : decode cX2_order 57 = .ok (.aload_n 0, 1) := by decide +kernel
theorem dX2_order_58 : decode cX2_order 58 = .ok (.getfield 51, 3) := by decide +kernel
theorem dX2_order_61 : decode cX2_order 61 = .ok (.ifCond .ne 72, 3) := by decide +kernel
theorem dX2_order_64 : decode cX2_order 64 = .ok (.aload_n 0, 1) := by decide +kernel
theorem dX2_order_65 : decode cX2_order 65 = .ok (.getfield 44, 3) := by decide +kernel
theorem dX2_order_68 : decode cX2_order 68 = .ok (.iload_n 2, 1) := by decide +kernel
theorem dX2_order_69 : decode cX2_order 69 = .ok (.iaload, 1) := by decide +kernel
theorem dX2_order_70 : decode cX2_order 70 = .ok (.iconst (-1), 1) := by decide +kernel
theorem dX2_order_71 : decode cX2_order 71 = .ok (.if_icmp .ne 62, 3) := by decide +kernel
theorem dX2_order_74 : decode cX2_order 74 = .ok (.aload_n 0, 1) := by decide +kernel
theorem dX2_order_75 : decode cX2_order 75 = .ok (.aload_n 0, 1) := by decide +kernel
theorem dX2_order_76 : decode cX2_order 76 = .ok (.invokevirtual 79, 3) := by decide +kernel
theorem dX2_order_79 : decode cX2_order 79 = .ok (.iload_n 1, 1) := by decide +kernel
theorem dX2_order_80 : decode cX2_order 80 = .ok (.if_icmp .ne 45, 3) := by decide +kernel
theorem dX2_order_83 : decode cX2_order 83 = .ok (.aload_n 0, 1) := by decide +kernel
theorem dX2_order_84 : decode cX2_order 84 = .ok (.getfield 19, 3) := by decide +kernel
theorem dX2_order_87 : decode cX2_order 87 = .ok (.iload_n 3, 1) := by decide +kernel
theorem dX2_order_88 : decode cX2_order 88 = .ok (.iaload, 1) := by decide +kernel
theorem dX2_order_89 : decode cX2_order 89 = .ok (.ifCond .ne 36, 3) := by decide +kernel
theorem dX2_order_92 : decode cX2_order 92 = .ok (.aload_n 0, 1) := by decide +kernel
theorem dX2_order_93 : decode cX2_order 93 = .ok (.getfield 7, 3) := by decide +kernel
theorem dX2_order_96 : decode cX2_order 96 = .ok (.iload_n 3, 1) := by decide +kernel
theorem dX2_order_97 : decode cX2_order 97 = .ok (.iaload, 1) := by decide +kernel
theorem dX2_order_98 : decode cX2_order 98 = .ok (.aload_n 0, 1) := by decide +kernel
theorem dX2_order_99 : decode cX2_order 99 = .ok (.getfield 61, 3) := by decide +kernel
theorem dX2_order_102 : decode cX2_order 102 = .ok (.if_icmp .le 23, 3) := by decide +kernel
theorem dX2_order_105 : decode cX2_order 105 = .ok (.aload_n 0, 1) := by decide +kernel
theorem dX2_order_106 : decode cX2_order 106 = .ok (.iload 4, 2) := by decide +kernel
theorem dX2_order_108 : decode cX2_order 108 = .ok (.iload_n 3, 1) := by decide +kernel
theorem dX2_order_109 : decode cX2_order 109 = .ok (.invokevirtual 92, 3) := by decide +kernel
theorem dX2_order_112 : decode cX2_order 112 = .ok (.ifCond .eq 13, 3) := by decide +kernel
theorem dX2_order_115 : decode cX2_order 115 = .ok (.aload_n 0, 1) := by decide +kernel
theorem dX2_order_116 : decode cX2_order 116 = .ok (.iload 5, 2) := by decide +kernel
theorem dX2_order_118 : decode cX2_order 118 = .ok (.iload_n 3, 1) := by decide +kernel
theorem dX2_order_119 : decode cX2_order 119 = .ok (.invokevirtual 96, 3) := by decide +kernel
theorem dX2_order_122 : decode cX2_order 122 = .ok (.ifCond .ne 7, 3) := by decide +kernel
theorem dX2_order_125 : decode cX2_order 125 = .ok (.iconst 3, 1) := by decide +kernel
theorem dX2_order_126 : decode cX2_order 126 = .ok (.goto 4, 3) := by decide +kernel
theorem dX2_order_129 : decode cX2_order 129 = .ok (.iconst 0, 1) := by decide +kernel
theorem dX2_order_130 : decode cX2_order 130 = .ok (.putfield 51, 3) := by decide +kernel
theorem dX2_order_133 : decode cX2_order 133 = .ok (.aload_n 0, 1) := by decide +kernel
theorem dX2_order_134 : decode cX2_order 134 = .ok (.getfield 51, 3) := by decide +kernel
theorem dX2_order_137 : decode cX2_order 137 = .ok (.ifCond .le 5, 3) := by decide +kernel
theorem dX2_order_140 : decode cX2_order 140 = .ok (.iconst 0, 1) := by decide +kernel
theorem dX2_order_141 : decode cX2_order 141 = .ok (.ireturn, 1) := by decide +kernel
theorem dX2_order_142 : decode cX2_order 142 = .ok (.aload_n 0, 1) := by decide +kernel
theorem dX2_order_143 : decode cX2_order 143 = .ok (.getfield 44, 3) := by decide +kernel
theorem dX2_order_146 : decode cX2_order 146 = .ok (.iload_n 2, 1) := by decide +kernel
theorem dX2_order_147 : decode cX2_order 147 = .ok (.iaload, 1) := by decide +kernel
theorem dX2_order_148 : decode cX2_order 148 = .ok (.iconst (-1), 1) := by decide +kernel
theorem dX2_order_149 : decode cX2_order 149 = .ok (.if_icmp .eq 10, 3) := by decide +kernel
theorem dX2_order_152 : decode cX2_order 152 = .ok (.aload_n 0, 1) := by decide +kernel
theorem dX2_order_153 : decode cX2_order 153 = .ok (.getfield 44, 3) := by decide +kernel
theorem dX2_order_156 : decode cX2_order 156 = .ok (.iload_n 2, 1) := by decide +kernel
theorem dX2_order_157 : decode cX2_order 157 = .ok (.iaload, 1) := by decide +kernel
theorem dX2_order_158 : decode cX2_order 158 = .ok (.ireturn, 1) := by decide +kernel
theorem dX2_order_159 : decode cX2_order 159 = .ok (.aload_n 0, 1) := by decide +kernel
theorem dX2_order_160 : decode cX2_order 160 = .ok (.getfield 19, 3) := by decide +kernel
theorem dX2_order_163 : decode cX2_order 163 = .ok (.iload_n 3, 1) := by decide +kernel
theorem dX2_order_164 : decode cX2_order 164 = .ok (.iconst 1, 1) := by decide +kernel
theorem dX2_order_165 : decode cX2_order 165 = .ok (.iastore, 1) := by decide +kernel
theorem dX2_order_166 : decode cX2_order 166 = .ok (.aload_n 0, 1) := by decide +kernel
theorem dX2_order_167 : decode cX2_order 167 = .ok (.getfield 22, 3) := by decide +kernel
theorem dX2_order_170 : decode cX2_order 170 = .ok (.iload_n 3, 1) := by decide +kernel
theorem dX2_order_171 : decode cX2_order 171 = .ok (.iload 4, 2) := by decide +kernel
theorem dX2_order_173 : decode cX2_order 173 = .ok (.iastore, 1) := by decide +kernel
theorem dX2_order_174 : decode cX2_order 174 = .ok (.aload_n 0, 1) := by decide +kernel
theorem dX2_order_175 : decode cX2_order 175 = .ok (.getfield 25, 3) := by decide +kernel
theorem dX2_order_178 : decode cX2_order 178 = .ok (.iload_n 3, 1) := by decide +kernel
theorem dX2_order_179 : decode cX2_order 179 = .ok (.iload 5, 2) := by decide +kernel
theorem dX2_order_181 : decode cX2_order 181 = .ok (.iastore, 1) := by decide +kernel
theorem dX2_order_182 : decode cX2_order 182 = .ok (.aload_n 0, 1) := by decide +kernel
theorem dX2_order_183 : decode cX2_order 183 = .ok (.getfield 41, 3) := by decide +kernel
theorem dX2_order_186 : decode cX2_order 186 = .ok (.aload_n 0, 1) := by decide +kernel
theorem dX2_order_187 : decode cX2_order 187 = .ok (.getfield 99, 3) := by decide +kernel
theorem dX2_order_190 : decode cX2_order 190 = .ok (.bipush 100, 2) := by decide +kernel
theorem dX2_order_192 : decode cX2_order 192 = .ok (.iload_n 3, 1) := by decide +kernel
theorem dX2_order_193 : decode cX2_order 193 = .ok (.imul, 1) := by decide +kernel
theorem dX2_order_194 : decode cX2_order 194 = .ok (.bipush 10, 2) := by decide +kernel
theorem dX2_order_196 : decode cX2_order 196 = .ok (.iload 4, 2) := by decide +kernel
theorem dX2_order_198 : decode cX2_order 198 = .ok (.imul, 1) := by decide +kernel
theorem dX2_order_199 : decode cX2_order 199 = .ok (.iadd, 1) := by decide +kernel
theorem dX2_order_200 : decode cX2_order 200 = .ok (.iload 5, 2) := by decide +kernel
theorem dX2_order_202 : decode cX2_order 202 = .ok (.iadd, 1) := by decide +kernel
theorem dX2_order_203 : decode cX2_order 203 = .ok (.iastore, 1) := by decide +kernel
theorem dX2_order_204 : decode cX2_order 204 = .ok (.aload_n 0, 1) := by decide +kernel
theorem dX2_order_205 : decode cX2_order 205 = .ok (.getfield 44, 3) := by decide +kernel
theorem dX2_order_208 : decode cX2_order 208 = .ok (.iload_n 2, 1) := by decide +kernel
theorem dX2_order_209 : decode cX2_order 209 = .ok (.aload_n 0, 1) := by decide +kernel
theorem dX2_order_210 : decode cX2_order 210 = .ok (.getfield 99, 3) := by decide +kernel
theorem dX2_order_213 : decode cX2_order 213 = .ok (.iastore, 1) := by decide +kernel
theorem dX2_order_214 : decode cX2_order 214 = .ok (.aload_n 0, 1) := by decide +kernel
theorem dX2_order_215 : decode cX2_order 215 = .ok (.dup, 1) := by decide +kernel
theorem dX2_order_216 : decode cX2_order 216 = .ok (.getfield 99, 3) := by decide +kernel
theorem dX2_order_219 : decode cX2_order 219 = .ok (.iconst 1, 1) := by decide +kernel
theorem dX2_order_220 : decode cX2_order 220 = .ok (.iadd, 1) := by decide +kernel
theorem dX2_order_221 : decode cX2_order 221 = .ok (.putfield 99, 3) := by decide +kernel
theorem dX2_order_224 : decode cX2_order 224 = .ok (.aload_n 0, 1) := by decide +kernel
theorem dX2_order_225 : decode cX2_order 225 = .ok (.getfield 99, 3) := by decide +kernel
theorem dX2_order_228 : decode cX2_order 228 = .ok (.iconst 1, 1) := by decide +kernel
theorem dX2_order_229 : decode cX2_order 229 = .ok (.isub, 1) := by decide +kernel
theorem dX2_order_230 : decode cX2_order 230 = .ok (.ireturn, 1) := by decide +kernel
theorem dX2_unplug_0 : decode cX2_unplug 0 = .ok (.iconst 0, 1) := by decide +kernel
theorem dX2_unplug_1 : decode cX2_unplug 1 = .ok (.istore_n 2, 1) := by decide +kernel
theorem dX2_unplug_2 : decode cX2_unplug 2 = .ok (.iload_n 2, 1) := by decide +kernel
theorem dX2_unplug_3 : decode cX2_unplug 3 = .ok (.iconst 2, 1) := by decide +kernel
theorem dX2_unplug_4 : decode cX2_unplug 4 = .ok (.if_icmp .ge 35, 3) := by decide +kernel
theorem dX2_unplug_7 : decode cX2_unplug 7 = .ok (.aload_n 0, 1) := by decide +kernel
theorem dX2_unplug_8 : decode cX2_unplug 8 = .ok (.getfield 38, 3) := by decide +kernel
