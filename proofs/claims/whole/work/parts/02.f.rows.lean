theorem dX2_unplug_11 : decode cX2_unplug 11 = .ok (.iload_n 2, 1) := by decide +kernel
theorem dX2_unplug_12 : decode cX2_unplug 12 = .ok (.aload_n 0, 1) := by decide +kernel
theorem dX2_unplug_13 : decode cX2_unplug 13 = .ok (.getfield 38, 3) := by decide +kernel
theorem dX2_unplug_16 : decode cX2_unplug 16 = .ok (.iload_n 2, 1) := by decide +kernel
theorem dX2_unplug_17 : decode cX2_unplug 17 = .ok (.iaload, 1) := by decide +kernel
theorem dX2_unplug_18 : decode cX2_unplug 18 = .ok (.iload_n 1, 1) := by decide +kernel
theorem dX2_unplug_19 : decode cX2_unplug 19 = .ok (.if_icmp .ne 7, 3) := by decide +kernel
theorem dX2_unplug_22 : decode cX2_unplug 22 = .ok (.iconst (-1), 1) := by decide +kernel
theorem dX2_unplug_23 : decode cX2_unplug 23 = .ok (.goto 9, 3) := by decide +kernel
theorem dX2_unplug_26 : decode cX2_unplug 26 = .ok (.aload_n 0, 1) := by decide +kernel
theorem dX2_unplug_27 : decode cX2_unplug 27 = .ok (.getfield 38, 3) := by decide +kernel
theorem dX2_unplug_30 : decode cX2_unplug 30 = .ok (.iload_n 2, 1) := by decide +kernel
theorem dX2_unplug_31 : decode cX2_unplug 31 = .ok (.iaload, 1) := by decide +kernel
theorem dX2_unplug_32 : decode cX2_unplug 32 = .ok (.iastore, 1) := by decide +kernel
theorem dX2_unplug_33 : decode cX2_unplug 33 = .ok (.iinc 2 1, 3) := by decide +kernel
theorem dX2_unplug_36 : decode cX2_unplug 36 = .ok (.goto (-34), 3) := by decide +kernel
theorem dX2_unplug_39 : decode cX2_unplug 39 = .ok (.return_, 1) := by decide +kernel
set_option maxRecDepth 20000 in
theorem ggX2_release_X2_free : GoodIn wsX2_release wsX2_free := goodIn_r _ [9, 2, 3, 10, 11, 12, 13, 14, 15, 16, 17, 18, 19, 20, 21, 22, 23, 24, 25, 26, 27] (by decide +kernel) (by decide +kernel)
set_option maxRecDepth 20000 in
theorem gX2_release_X2_free : GoodIn wsX2_release (wsV RX2 75 RX2 yX2_free wsX2_free) := goodIn_app (goodIn_of _ (by decide +kernel)) ggX2_release_X2_free
theorem dX2_release_0 : decode cX2_release 0 = .ok (.iconst (-1), 1) := by decide +kernel
theorem dX2_release_1 : decode cX2_release 1 = .ok (.istore_n 3, 1) := by decide +kernel
theorem dX2_release_2 : decode cX2_release 2 = .ok (.iconst 0, 1) := by decide +kernel
theorem dX2_release_3 : decode cX2_release 3 = .ok (.istore 4, 2) := by decide +kernel
theorem dX2_release_5 : decode cX2_release 5 = .ok (.iload 4, 2) := by decide +kernel
theorem dX2_release_7 : decode cX2_release 7 = .ok (.aload_n 0, 1) := by decide +kernel
theorem dX2_release_8 : decode cX2_release 8 = .ok (.getfield 54, 3) := by decide +kernel
theorem dX2_release_11 : decode cX2_release 11 = .ok (.if_icmp .ge 91, 3) := by decide +kernel
theorem dX2_release_14 : decode cX2_release 14 = .ok (.aload_n 0, 1) := by decide +kernel
theorem dX2_release_15 : decode cX2_release 15 = .ok (.getfield 22, 3) := by decide +kernel
theorem dX2_release_18 : decode cX2_release 18 = .ok (.iload 4, 2) := by decide +kernel
theorem dX2_release_20 : decode cX2_release 20 = .ok (.iaload, 1) := by decide +kernel
theorem dX2_release_21 : decode cX2_release 21 = .ok (.iload_n 1, 1) := by decide +kernel
theorem dX2_release_22 : decode cX2_release 22 = .ok (.if_icmp .eq 14, 3) := by decide +kernel
theorem dX2_release_25 : decode cX2_release 25 = .ok (.aload_n 0, 1) := by decide +kernel
theorem dX2_release_26 : decode cX2_release 26 = .ok (.getfield 25, 3) := by decide +kernel
theorem dX2_release_29 : decode cX2_release 29 = .ok (.iload 4, 2) := by decide +kernel
theorem dX2_release_31 : decode cX2_release 31 = .ok (.iaload, 1) := by decide +kernel
theorem dX2_release_32 : decode cX2_release 32 = .ok (.iload_n 2, 1) := by decide +kernel
theorem dX2_release_33 : decode cX2_release 33 = .ok (.if_icmp .ne 7, 3) := by decide +kernel
theorem dX2_release_36 : decode cX2_release 36 = .ok (.iconst 1, 1) := by decide +kernel
theorem dX2_release_37 : decode cX2_release 37 = .ok (.goto 4, 3) := by decide +kernel
theorem dX2_release_40 : decode cX2_release 40 = .ok (.iconst 0, 1) := by decide +kernel
theorem dX2_release_41 : decode cX2_release 41 = .ok (.istore 5, 2) := by decide +kernel
theorem dX2_release_43 : decode cX2_release 43 = .ok (.iload 5, 2) := by decide +kernel
theorem dX2_release_45 : decode cX2_release 45 = .ok (.ifCond .eq 19, 3) := by decide +kernel
theorem dX2_release_48 : decode cX2_release 48 = .ok (.aload_n 0, 1) := by decide +kernel
theorem dX2_release_49 : decode cX2_release 49 = .ok (.getfield 19, 3) := by decide +kernel
theorem dX2_release_52 : decode cX2_release 52 = .ok (.iload 4, 2) := by decide +kernel
theorem dX2_release_54 : decode cX2_release 54 = .ok (.iaload, 1) := by decide +kernel
theorem dX2_release_55 : decode cX2_release 55 = .ok (.iconst 2, 1) := by decide +kernel
theorem dX2_release_56 : decode cX2_release 56 = .ok (.if_icmp .ne 8, 3) := by decide +kernel
theorem dX2_release_59 : decode cX2_release 59 = .ok (.iload 4, 2) := by decide +kernel
theorem dX2_release_61 : decode cX2_release 61 = .ok (.goto 4, 3) := by decide +kernel
theorem dX2_release_64 : decode cX2_release 64 = .ok (.iload_n 3, 1) := by decide +kernel
theorem dX2_release_65 : decode cX2_release 65 = .ok (.istore_n 3, 1) := by decide +kernel
theorem dX2_release_66 : decode cX2_release 66 = .ok (.iload 5, 2) := by decide +kernel
theorem dX2_release_68 : decode cX2_release 68 = .ok (.ifCond .eq 28, 3) := by decide +kernel
theorem dX2_release_71 : decode cX2_release 71 = .ok (.aload_n 0, 1) := by decide +kernel
theorem dX2_release_72 : decode cX2_release 72 = .ok (.getfield 19, 3) := by decide +kernel
theorem dX2_release_75 : decode cX2_release 75 = .ok (.iload 4, 2) := by decide +kernel
theorem dX2_release_77 : decode cX2_release 77 = .ok (.iaload, 1) := by decide +kernel
theorem dX2_release_78 : decode cX2_release 78 = .ok (.iconst 1, 1) := by decide +kernel
theorem dX2_release_79 : decode cX2_release 79 = .ok (.if_icmp .ne 17, 3) := by decide +kernel
theorem dX2_release_82 : decode cX2_release 82 = .ok (.aload_n 0, 1) := by decide +kernel
theorem dX2_release_83 : decode cX2_release 83 = .ok (.getfield 19, 3) := by decide +kernel
theorem dX2_release_86 : decode cX2_release 86 = .ok (.iload 4, 2) := by decide +kernel
theorem dX2_release_88 : decode cX2_release 88 = .ok (.iconst 0, 1) := by decide +kernel
theorem dX2_release_89 : decode cX2_release 89 = .ok (.iastore, 1) := by decide +kernel
theorem dX2_release_90 : decode cX2_release 90 = .ok (.aload_n 0, 1) := by decide +kernel
theorem dX2_release_91 : decode cX2_release 91 = .ok (.iload 4, 2) := by decide +kernel
theorem dX2_release_93 : decode cX2_release 93 = .ok (.invokevirtual 75, 3) := by decide +kernel
theorem dX2_release_96 : decode cX2_release 96 = .ok (.iinc 4 1, 3) := by decide +kernel
theorem dX2_release_99 : decode cX2_release 99 = .ok (.goto (-94), 3) := by decide +kernel
theorem dX2_release_102 : decode cX2_release 102 = .ok (.iload_n 3, 1) := by decide +kernel
theorem dX2_release_103 : decode cX2_release 103 = .ok (.ireturn, 1) := by decide +kernel
set_option maxRecDepth 20000 in
theorem ggX2_lose_X2_free : GoodIn wsX2_lose wsX2_free := goodIn_r _ [6, 7, 8, 9, 10, 11, 12, 13, 14, 15, 16, 17, 18, 19, 20, 21, 22, 23, 24, 25, 26] (by decide +kernel) (by decide +kernel)
set_option maxRecDepth 20000 in
theorem gX2_lose_X2_free : GoodIn wsX2_lose (wsV RX2 75 RX2 yX2_free wsX2_free) := goodIn_app (goodIn_of _ (by decide +kernel)) ggX2_lose_X2_free
theorem dX2_lose_0 : decode cX2_lose 0 = .ok (.aload_n 0, 1) := by decide +kernel
theorem dX2_lose_1 : decode cX2_lose 1 = .ok (.getfield 19, 3) := by decide +kernel
theorem dX2_lose_4 : decode cX2_lose 4 = .ok (.iload_n 1, 1) := by decide +kernel
theorem dX2_lose_5 : decode cX2_lose 5 = .ok (.iconst 4, 1) := by decide +kernel
theorem dX2_lose_6 : decode cX2_lose 6 = .ok (.iastore, 1) := by decide +kernel
theorem dX2_lose_7 : decode cX2_lose 7 = .ok (.aload_n 0, 1) := by decide +kernel
theorem dX2_lose_8 : decode cX2_lose 8 = .ok (.iload_n 1, 1) := by decide +kernel
theorem dX2_lose_9 : decode cX2_lose 9 = .ok (.invokevirtual 75, 3) := by decide +kernel
theorem dX2_lose_12 : decode cX2_lose 12 = .ok (.return_, 1) := by decide +kernel
set_option maxRecDepth 20000 in
theorem ggX2_breaks_X2_isBus : GoodIn wsX2_breaks wsX2_isBus := goodIn_r _ [9, 10, 11, 8, 12] (by decide +kernel) (by decide +kernel)
set_option maxRecDepth 20000 in
theorem gX2_breaks_X2_isBus : GoodIn wsX2_breaks (va_wsS RX2 86 yX2_isBus wsX2_isBus) := goodIn_app (goodIn_of _ (by decide +kernel)) ggX2_breaks_X2_isBus
set_option maxRecDepth 20000 in
theorem ggX2_breaks_X2_unplug : GoodIn wsX2_breaks wsX2_unplug := goodIn_r _ [16, 17, 43, 44, 45, 46, 47, 48, 49, 50, 51, 52, 53, 54, 55, 56, 57, 58, 59, 60] (by decide +kernel) (by decide +kernel)
set_option maxRecDepth 20000 in
theorem gX2_breaks_X2_unplug : GoodIn wsX2_breaks (wsV RX2 102 RX2 yX2_unplug wsX2_unplug) := goodIn_app (goodIn_of _ (by decide +kernel)) ggX2_breaks_X2_unplug
set_option maxRecDepth 20000 in
theorem ggX2_breaks_X2_release : GoodIn wsX2_breaks wsX2_release := goodIn_r _ [21, 22, 3, 23, 24, 25, 26, 27, 8, 28, 43, 44, 45, 46, 47, 48, 49, 50, 51, 52, 53, 54, 55, 56, 57, 58, 59, 60] (by decide +kernel) (by decide +kernel)
set_option maxRecDepth 20000 in
theorem gX2_breaks_X2_release : GoodIn wsX2_breaks (wsV RX2 105 RX2 yX2_release wsX2_release) := goodIn_app (goodIn_of _ (by decide +kernel)) ggX2_breaks_X2_release
set_option maxRecDepth 20000 in
theorem ggX2_breaks_X2_isFitBus : GoodIn wsX2_breaks wsX2_isFitBus := goodIn_r _ [32, 2, 4, 5, 22, 3, 24, 33, 34, 35, 36, 37, 8, 38, 43, 44, 45, 46, 47, 48, 49, 50, 51, 52, 53, 54, 55, 56, 57, 58, 59, 60] (by decide +kernel) (by decide +kernel)
set_option maxRecDepth 20000 in
theorem gX2_breaks_X2_isFitBus : GoodIn wsX2_breaks (wsV RX2 92 RX2 yX2_isFitBus wsX2_isFitBus) := goodIn_app (goodIn_of _ (by decide +kernel)) ggX2_breaks_X2_isFitBus
set_option maxRecDepth 20000 in
theorem ggX2_breaks_X2_lose : GoodIn wsX2_breaks wsX2_lose := goodIn_r _ [42, 24, 25, 26, 27, 8, 28, 3, 23, 43, 44, 45, 46, 47, 48, 49, 50, 51, 52, 53, 54, 55, 56, 57, 58, 59, 60] (by decide +kernel) (by decide +kernel)
set_option maxRecDepth 20000 in
theorem gX2_breaks_X2_lose : GoodIn wsX2_breaks (wsV RX2 109 RX2 yX2_lose wsX2_lose) := goodIn_app (goodIn_of _ (by decide +kernel)) ggX2_breaks_X2_lose
theorem dX2_breaks_0 : decode cX2_breaks 0 = .ok (.aload_n 0, 1) := by decide +kernel
theorem dX2_breaks_1 : decode cX2_breaks 1 = .ok (.iload_n 1, 1) := by decide +kernel
theorem dX2_breaks_2 : decode cX2_breaks 2 = .ok (.invokestatic 86, 3) := by decide +kernel
theorem dX2_breaks_5 : decode cX2_breaks 5 = .ok (.ifCond .eq 7, 3) := by decide +kernel
theorem dX2_breaks_8 : decode cX2_breaks 8 = .ok (.iconst 0, 1) := by decide +kernel
theorem dX2_breaks_9 : decode cX2_breaks 9 = .ok (.goto 4, 3) := by decide +kernel
theorem dX2_breaks_12 : decode cX2_breaks 12 = .ok (.iconst 1, 1) := by decide +kernel
theorem dX2_breaks_13 : decode cX2_breaks 13 = .ok (.putfield 51, 3) := by decide +kernel
theorem dX2_breaks_16 : decode cX2_breaks 16 = .ok (.aload_n 0, 1) := by decide +kernel
theorem dX2_breaks_17 : decode cX2_breaks 17 = .ok (.getfield 51, 3) := by decide +kernel
theorem dX2_breaks_20 : decode cX2_breaks 20 = .ok (.ifCond .le 5, 3) := by decide +kernel
theorem dX2_breaks_23 : decode cX2_breaks 23 = .ok (.iconst 0, 1) := by decide +kernel
theorem dX2_breaks_24 : decode cX2_breaks 24 = .ok (.ireturn, 1) := by decide +kernel
theorem dX2_breaks_25 : decode cX2_breaks 25 = .ok (.aload_n 0, 1) := by decide +kernel
theorem dX2_breaks_26 : decode cX2_breaks 26 = .ok (.getfield 31, 3) := by decide +kernel
theorem dX2_breaks_29 : decode cX2_breaks 29 = .ok (.iload_n 1, 1) := by decide +kernel
theorem dX2_breaks_30 : decode cX2_breaks 30 = .ok (.baload, 1) := by decide +kernel
theorem dX2_breaks_31 : decode cX2_breaks 31 = .ok (.istore_n 3, 1) := by decide +kernel
theorem dX2_breaks_32 : decode cX2_breaks 32 = .ok (.aload_n 0, 1) := by decide +kernel
theorem dX2_breaks_33 : decode cX2_breaks 33 = .ok (.getfield 31, 3) := by decide +kernel
theorem dX2_breaks_36 : decode cX2_breaks 36 = .ok (.iload_n 1, 1) := by decide +kernel
theorem dX2_breaks_37 : decode cX2_breaks 37 = .ok (.iload_n 2, 1) := by decide +kernel
theorem dX2_breaks_38 : decode cX2_breaks 38 = .ok (.bastore, 1) := by decide +kernel
theorem dX2_breaks_39 : decode cX2_breaks 39 = .ok (.iload_n 2, 1) := by decide +kernel
theorem dX2_breaks_40 : decode cX2_breaks 40 = .ok (.ifCond .eq 108, 3) := by decide +kernel
theorem dX2_breaks_43 : decode cX2_breaks 43 = .ok (.aload_n 0, 1) := by decide +kernel
theorem dX2_breaks_44 : decode cX2_breaks 44 = .ok (.iload_n 1, 1) := by decide +kernel
theorem dX2_breaks_45 : decode cX2_breaks 45 = .ok (.invokevirtual 102, 3) := by decide +kernel
theorem dX2_breaks_48 : decode cX2_breaks 48 = .ok (.aload_n 0, 1) := by decide +kernel
theorem dX2_breaks_49 : decode cX2_breaks 49 = .ok (.iload_n 1, 1) := by decide +kernel
theorem dX2_breaks_50 : decode cX2_breaks 50 = .ok (.bipush 6, 2) := by decide +kernel
theorem dX2_breaks_52 : decode cX2_breaks 52 = .ok (.invokevirtual 105, 3) := by decide +kernel
theorem dX2_breaks_55 : decode cX2_breaks 55 = .ok (.istore 4, 2) := by decide +kernel
theorem dX2_breaks_57 : decode cX2_breaks 57 = .ok (.iconst 0, 1) := by decide +kernel
theorem dX2_breaks_58 : decode cX2_breaks 58 = .ok (.istore 5, 2) := by decide +kernel
theorem dX2_breaks_60 : decode cX2_breaks 60 = .ok (.iload 4, 2) := by decide +kernel
theorem dX2_breaks_62 : decode cX2_breaks 62 = .ok (.iconst (-1), 1) := by decide +kernel
theorem dX2_breaks_63 : decode cX2_breaks 63 = .ok (.if_icmp .eq 26, 3) := by decide +kernel
theorem dX2_breaks_66 : decode cX2_breaks 66 = .ok (.iload 5, 2) := by decide +kernel
theorem dX2_breaks_68 : decode cX2_breaks 68 = .ok (.iconst 5, 1) := by decide +kernel
theorem dX2_breaks_69 : decode cX2_breaks 69 = .ok (.if_icmp .ge 20, 3) := by decide +kernel
theorem dX2_breaks_72 : decode cX2_breaks 72 = .ok (.aload_n 0, 1) := by decide +kernel
theorem dX2_breaks_73 : decode cX2_breaks 73 = .ok (.iload 5, 2) := by decide +kernel
theorem dX2_breaks_75 : decode cX2_breaks 75 = .ok (.iload 4, 2) := by decide +kernel
theorem dX2_breaks_77 : decode cX2_breaks 77 = .ok (.invokevirtual 92, 3) := by decide +kernel
theorem dX2_breaks_80 : decode cX2_breaks 80 = .ok (.ifCond .ne 9, 3) := by decide +kernel
theorem dX2_breaks_83 : decode cX2_breaks 83 = .ok (.iinc 5 1, 3) := by decide +kernel
theorem dX2_breaks_86 : decode cX2_breaks 86 = .ok (.goto (-26), 3) := by decide +kernel
theorem dX2_breaks_89 : decode cX2_breaks 89 = .ok (.iload 4, 2) := by decide +kernel
theorem dX2_breaks_91 : decode cX2_breaks 91 = .ok (.iconst (-1), 1) := by decide +kernel
theorem dX2_breaks_92 : decode cX2_breaks 92 = .ok (.if_icmp .eq 18, 3) := by decide +kernel
theorem dX2_breaks_95 : decode cX2_breaks 95 = .ok (.iload 5, 2) := by decide +kernel
theorem dX2_breaks_97 : decode cX2_breaks 97 = .ok (.iconst 5, 1) := by decide +kernel
theorem dX2_breaks_98 : decode cX2_breaks 98 = .ok (.if_icmp .ne 12, 3) := by decide +kernel
theorem dX2_breaks_101 : decode cX2_breaks 101 = .ok (.aload_n 0, 1) := by decide +kernel
theorem dX2_breaks_102 : decode cX2_breaks 102 = .ok (.iload 4, 2) := by decide +kernel
theorem dX2_breaks_104 : decode cX2_breaks 104 = .ok (.invokevirtual 109, 3) := by decide +kernel
theorem dX2_breaks_107 : decode cX2_breaks 107 = .ok (.goto 41, 3) := by decide +kernel
theorem dX2_breaks_110 : decode cX2_breaks 110 = .ok (.iload 4, 2) := by decide +kernel
theorem dX2_breaks_112 : decode cX2_breaks 112 = .ok (.iconst (-1), 1) := by decide +kernel
theorem dX2_breaks_113 : decode cX2_breaks 113 = .ok (.if_icmp .eq 35, 3) := by decide +kernel
theorem dX2_breaks_116 : decode cX2_breaks 116 = .ok (.aload_n 0, 1) := by decide +kernel
theorem dX2_breaks_117 : decode cX2_breaks 117 = .ok (.getfield 22, 3) := by decide +kernel
theorem dX2_breaks_120 : decode cX2_breaks 120 = .ok (.iload 4, 2) := by decide +kernel
theorem dX2_breaks_122 : decode cX2_breaks 122 = .ok (.iload 5, 2) := by decide +kernel
theorem dX2_breaks_124 : decode cX2_breaks 124 = .ok (.iastore, 1) := by decide +kernel
theorem dX2_breaks_125 : decode cX2_breaks 125 = .ok (.aload_n 0, 1) := by decide +kernel
theorem dX2_breaks_126 : decode cX2_breaks 126 = .ok (.getfield 28, 3) := by decide +kernel
theorem dX2_breaks_129 : decode cX2_breaks 129 = .ok (.iload 5, 2) := by decide +kernel
theorem dX2_breaks_131 : decode cX2_breaks 131 = .ok (.dup2, 1) := by decide +kernel
theorem dX2_breaks_132 : decode cX2_breaks 132 = .ok (.iaload, 1) := by decide +kernel
theorem dX2_breaks_133 : decode cX2_breaks 133 = .ok (.aload_n 0, 1) := by decide +kernel
theorem dX2_breaks_134 : decode cX2_breaks 134 = .ok (.getfield 16, 3) := by decide +kernel
theorem dX2_breaks_137 : decode cX2_breaks 137 = .ok (.iload 4, 2) := by decide +kernel
theorem dX2_breaks_139 : decode cX2_breaks 139 = .ok (.iaload, 1) := by decide +kernel
theorem dX2_breaks_140 : decode cX2_breaks 140 = .ok (.isub, 1) := by decide +kernel
theorem dX2_breaks_141 : decode cX2_breaks 141 = .ok (.iastore, 1) := by decide +kernel
theorem dX2_breaks_142 : decode cX2_breaks 142 = .ok (.aload_n 0, 1) := by decide +kernel
theorem dX2_breaks_143 : decode cX2_breaks 143 = .ok (.iload 5, 2) := by decide +kernel
theorem dX2_breaks_145 : decode cX2_breaks 145 = .ok (.invokevirtual 102, 3) := by decide +kernel
theorem dX2_breaks_148 : decode cX2_breaks 148 = .ok (.iload_n 3, 1) := by decide +kernel
theorem dX2_breaks_149 : decode cX2_breaks 149 = .ok (.ireturn, 1) := by decide +kernel
set_option maxRecDepth 20000 in
theorem ggX2_ails_X2_isDriver : GoodIn wsX2_ails wsX2_isDriver := goodIn_r _ [7, 8, 9, 6, 10] (by decide +kernel) (by decide +kernel)
set_option maxRecDepth 20000 in
theorem gX2_ails_X2_isDriver : GoodIn wsX2_ails (va_wsS RX2 89 yX2_isDriver wsX2_isDriver) := goodIn_app (goodIn_of _ (by decide +kernel)) ggX2_ails_X2_isDriver
set_option maxRecDepth 20000 in
theorem ggX2_ails_X2_release : GoodIn wsX2_ails wsX2_release := goodIn_r _ [14, 15, 16, 3, 17, 18, 19, 20, 6, 21, 36, 37, 38, 39, 40, 41, 42, 43, 44, 45, 46, 47, 48, 49, 50, 51, 52, 53] (by decide +kernel) (by decide +kernel)
set_option maxRecDepth 20000 in
theorem gX2_ails_X2_release : GoodIn wsX2_ails (wsV RX2 105 RX2 yX2_release wsX2_release) := goodIn_app (goodIn_of _ (by decide +kernel)) ggX2_ails_X2_release
set_option maxRecDepth 20000 in
theorem ggX2_ails_X2_isFitDriver : GoodIn wsX2_ails wsX2_isFitDriver := goodIn_r _ [25, 2, 26, 27, 15, 3, 28, 29, 30, 6, 31, 17, 36, 37, 38, 39, 40, 41, 42, 43, 44, 45, 46, 47, 48, 49, 50, 51, 52, 53] (by decide +kernel) (by decide +kernel)
set_option maxRecDepth 20000 in
theorem gX2_ails_X2_isFitDriver : GoodIn wsX2_ails (wsV RX2 96 RX2 yX2_isFitDriver wsX2_isFitDriver) := goodIn_app (goodIn_of _ (by decide +kernel)) ggX2_ails_X2_isFitDriver
set_option maxRecDepth 20000 in
theorem ggX2_ails_X2_lose : GoodIn wsX2_ails wsX2_lose := goodIn_r _ [35, 17, 18, 19, 20, 6, 21, 16, 3, 36, 37, 38, 39, 40, 41, 42, 43, 44, 45, 46, 47, 48, 49, 50, 51, 52, 53] (by decide +kernel) (by decide +kernel)
set_option maxRecDepth 20000 in
theorem gX2_ails_X2_lose : GoodIn wsX2_ails (wsV RX2 109 RX2 yX2_lose wsX2_lose) := goodIn_app (goodIn_of _ (by decide +kernel)) ggX2_ails_X2_lose
theorem dX2_ails_0 : decode cX2_ails 0 = .ok (.aload_n 0, 1) := by decide +kernel
theorem dX2_ails_1 : decode cX2_ails 1 = .ok (.iload_n 1, 1) := by decide +kernel
theorem dX2_ails_2 : decode cX2_ails 2 = .ok (.invokestatic 89, 3) := by decide +kernel
theorem dX2_ails_5 : decode cX2_ails 5 = .ok (.ifCond .eq 7, 3) := by decide +kernel
theorem dX2_ails_8 : decode cX2_ails 8 = .ok (.iconst 0, 1) := by decide +kernel
theorem dX2_ails_9 : decode cX2_ails 9 = .ok (.goto 4, 3) := by decide +kernel
theorem dX2_ails_12 : decode cX2_ails 12 = .ok (.iconst 1, 1) := by decide +kernel
theorem dX2_ails_13 : decode cX2_ails 13 = .ok (.putfield 51, 3) := by decide +kernel
theorem dX2_ails_16 : decode cX2_ails 16 = .ok (.aload_n 0, 1) := by decide +kernel
theorem dX2_ails_17 : decode cX2_ails 17 = .ok (.getfield 51, 3) := by decide +kernel
theorem dX2_ails_20 : decode cX2_ails 20 = .ok (.ifCond .le 5, 3) := by decide +kernel
theorem dX2_ails_23 : decode cX2_ails 23 = .ok (.iconst 0, 1) := by decide +kernel
theorem dX2_ails_24 : decode cX2_ails 24 = .ok (.ireturn, 1) := by decide +kernel
theorem dX2_ails_25 : decode cX2_ails 25 = .ok (.aload_n 0, 1) := by decide +kernel
theorem dX2_ails_26 : decode cX2_ails 26 = .ok (.getfield 35, 3) := by decide +kernel
theorem dX2_ails_29 : decode cX2_ails 29 = .ok (.iload_n 1, 1) := by decide +kernel
theorem dX2_ails_30 : decode cX2_ails 30 = .ok (.baload, 1) := by decide +kernel
theorem dX2_ails_31 : decode cX2_ails 31 = .ok (.istore_n 3, 1) := by decide +kernel
theorem dX2_ails_32 : decode cX2_ails 32 = .ok (.aload_n 0, 1) := by decide +kernel
theorem dX2_ails_33 : decode cX2_ails 33 = .ok (.getfield 35, 3) := by decide +kernel
theorem dX2_ails_36 : decode cX2_ails 36 = .ok (.iload_n 1, 1) := by decide +kernel
theorem dX2_ails_37 : decode cX2_ails 37 = .ok (.iload_n 2, 1) := by decide +kernel
theorem dX2_ails_38 : decode cX2_ails 38 = .ok (.bastore, 1) := by decide +kernel
theorem dX2_ails_39 : decode cX2_ails 39 = .ok (.iload_n 2, 1) := by decide +kernel
theorem dX2_ails_40 : decode cX2_ails 40 = .ok (.ifCond .eq 84, 3) := by decide +kernel
theorem dX2_ails_43 : decode cX2_ails 43 = .ok (.iload_n 3, 1) := by decide +kernel
theorem dX2_ails_44 : decode cX2_ails 44 = .ok (.ifCond .ne 80, 3) := by decide +kernel
theorem dX2_ails_47 : decode cX2_ails 47 = .ok (.aload_n 0, 1) := by decide +kernel
theorem dX2_ails_48 : decode cX2_ails 48 = .ok (.bipush 6, 2) := by decide +kernel
theorem dX2_ails_50 : decode cX2_ails 50 = .ok (.iload_n 1, 1) := by decide +kernel
theorem dX2_ails_51 : decode cX2_ails 51 = .ok (.invokevirtual 105, 3) := by decide +kernel
theorem dX2_ails_54 : decode cX2_ails 54 = .ok (.istore 4, 2) := by decide +kernel
theorem dX2_ails_56 : decode cX2_ails 56 = .ok (.iconst 0, 1) := by decide +kernel
theorem dX2_ails_57 : decode cX2_ails 57 = .ok (.istore 5, 2) := by decide +kernel
theorem dX2_ails_59 : decode cX2_ails 59 = .ok (.iload 4, 2) := by decide +kernel
theorem dX2_ails_61 : decode cX2_ails 61 = .ok (.iconst (-1), 1) := by decide +kernel
theorem dX2_ails_62 : decode cX2_ails 62 = .ok (.if_icmp .eq 26, 3) := by decide +kernel
theorem dX2_ails_65 : decode cX2_ails 65 = .ok (.iload 5, 2) := by decide +kernel
theorem dX2_ails_67 : decode cX2_ails 67 = .ok (.iconst 5, 1) := by decide +kernel
theorem dX2_ails_68 : decode cX2_ails 68 = .ok (.if_icmp .ge 20, 3) := by decide +kernel
theorem dX2_ails_71 : decode cX2_ails 71 = .ok (.aload_n 0, 1) := by decide +kernel
theorem dX2_ails_72 : decode cX2_ails 72 = .ok (.iload 5, 2) := by decide +kernel
theorem dX2_ails_74 : decode cX2_ails 74 = .ok (.iload 4, 2) := by decide +kernel
theorem dX2_ails_76 : decode cX2_ails 76 = .ok (.invokevirtual 96, 3) := by decide +kernel
theorem dX2_ails_79 : decode cX2_ails 79 = .ok (.ifCond .ne 9, 3) := by decide +kernel
theorem dX2_ails_82 : decode cX2_ails 82 = .ok (.iinc 5 1, 3) := by decide +kernel
theorem dX2_ails_85 : decode cX2_ails 85 = .ok (.goto (-26), 3) := by decide +kernel
theorem dX2_ails_88 : decode cX2_ails 88 = .ok (.iload 4, 2) := by decide +kernel
theorem dX2_ails_90 : decode cX2_ails 90 = .ok (.iconst (-1), 1) := by decide +kernel
theorem dX2_ails_91 : decode cX2_ails 91 = .ok (.if_icmp .eq 18, 3) := by decide +kernel
theorem dX2_ails_94 : decode cX2_ails 94 = .ok (.iload 5, 2) := by decide +kernel
theorem dX2_ails_96 : decode cX2_ails 96 = .ok (.iconst 5, 1) := by decide +kernel
theorem dX2_ails_97 : decode cX2_ails 97 = .ok (.if_icmp .ne 12, 3) := by decide +kernel
theorem dX2_ails_100 : decode cX2_ails 100 = .ok (.aload_n 0, 1) := by decide +kernel
theorem dX2_ails_101 : decode cX2_ails 101 = .ok (.iload 4, 2) := by decide +kernel
theorem dX2_ails_103 : decode cX2_ails 103 = .ok (.invokevirtual 109, 3) := by decide +kernel
theorem dX2_ails_106 : decode cX2_ails 106 = .ok (.goto 18, 3) := by decide +kernel
theorem dX2_ails_109 : decode cX2_ails 109 = .ok (.iload 4, 2) := by decide +kernel
theorem dX2_ails_111 : decode cX2_ails 111 = .ok (.iconst (-1), 1) := by decide +kernel
theorem dX2_ails_112 : decode cX2_ails 112 = .ok (.if_icmp .eq 12, 3) := by decide +kernel
theorem dX2_ails_115 : decode cX2_ails 115 = .ok (.aload_n 0, 1) := by decide +kernel
theorem dX2_ails_116 : decode cX2_ails 116 = .ok (.getfield 25, 3) := by decide +kernel
theorem dX2_ails_119 : decode cX2_ails 119 = .ok (.iload 4, 2) := by decide +kernel
theorem dX2_ails_121 : decode cX2_ails 121 = .ok (.iload 5, 2) := by decide +kernel
theorem dX2_ails_123 : decode cX2_ails 123 = .ok (.iastore, 1) := by decide +kernel
theorem dX2_ails_124 : decode cX2_ails 124 = .ok (.iload_n 3, 1) := by decide +kernel
theorem dX2_ails_125 : decode cX2_ails 125 = .ok (.ireturn, 1) := by decide +kernel
theorem dX2_isGoing_0 : decode cX2_isGoing 0 = .ok (.iconst 0, 1) := by decide +kernel
theorem dX2_isGoing_1 : decode cX2_isGoing 1 = .ok (.istore_n 2, 1) := by decide +kernel
theorem dX2_isGoing_2 : decode cX2_isGoing 2 = .ok (.iconst 0, 1) := by decide +kernel
theorem dX2_isGoing_3 : decode cX2_isGoing 3 = .ok (.istore_n 3, 1) := by decide +kernel
theorem dX2_isGoing_4 : decode cX2_isGoing 4 = .ok (.iload_n 3, 1) := by decide +kernel
theorem dX2_isGoing_5 : decode cX2_isGoing 5 = .ok (.aload_n 0, 1) := by decide +kernel
theorem dX2_isGoing_6 : decode cX2_isGoing 6 = .ok (.getfield 54, 3) := by decide +kernel
theorem dX2_isGoing_9 : decode cX2_isGoing 9 = .ok (.if_icmp .ge 39, 3) := by decide +kernel
theorem dX2_isGoing_12 : decode cX2_isGoing 12 = .ok (.iload_n 2, 1) := by decide +kernel
theorem dX2_isGoing_13 : decode cX2_isGoing 13 = .ok (.ifCond .ne 23, 3) := by decide +kernel
theorem dX2_isGoing_16 : decode cX2_isGoing 16 = .ok (.aload_n 0, 1) := by decide +kernel
theorem dX2_isGoing_17 : decode cX2_isGoing 17 = .ok (.getfield 19, 3) := by decide +kernel
theorem dX2_isGoing_20 : decode cX2_isGoing 20 = .ok (.iload_n 3, 1) := by decide +kernel
theorem dX2_isGoing_21 : decode cX2_isGoing 21 = .ok (.iaload, 1) := by decide +kernel
theorem dX2_isGoing_22 : decode cX2_isGoing 22 = .ok (.iconst 2, 1) := by decide +kernel
theorem dX2_isGoing_23 : decode cX2_isGoing 23 = .ok (.if_icmp .ne 17, 3) := by decide +kernel
theorem dX2_isGoing_26 : decode cX2_isGoing 26 = .ok (.aload_n 0, 1) := by decide +kernel
theorem dX2_isGoing_27 : decode cX2_isGoing 27 = .ok (.getfield 22, 3) := by decide +kernel
theorem dX2_isGoing_30 : decode cX2_isGoing 30 = .ok (.iload_n 3, 1) := by decide +kernel
theorem dX2_isGoing_31 : decode cX2_isGoing 31 = .ok (.iaload, 1) := by decide +kernel
theorem dX2_isGoing_32 : decode cX2_isGoing 32 = .ok (.iload_n 1, 1) := by decide +kernel
theorem dX2_isGoing_33 : decode cX2_isGoing 33 = .ok (.if_icmp .ne 7, 3) := by decide +kernel
theorem dX2_isGoing_36 : decode cX2_isGoing 36 = .ok (.iconst 1, 1) := by decide +kernel
theorem dX2_isGoing_37 : decode cX2_isGoing 37 = .ok (.goto 4, 3) := by decide +kernel
theorem dX2_isGoing_40 : decode cX2_isGoing 40 = .ok (.iconst 0, 1) := by decide +kernel
theorem dX2_isGoing_41 : decode cX2_isGoing 41 = .ok (.istore_n 2, 1) := by decide +kernel
theorem dX2_isGoing_42 : decode cX2_isGoing 42 = .ok (.iinc 3 1, 3) := by decide +kernel
theorem dX2_isGoing_45 : decode cX2_isGoing 45 = .ok (.goto (-41), 3) := by decide +kernel
theorem dX2_isGoing_48 : decode cX2_isGoing 48 = .ok (.iload_n 2, 1) := by decide +kernel
theorem dX2_isGoing_49 : decode cX2_isGoing 49 = .ok (.ireturn, 1) := by decide +kernel
set_option maxRecDepth 20000 in
theorem ggX2_plug_X2_isBus : GoodIn wsX2_plug wsX2_isBus := goodIn_r _ [6, 7, 8, 5, 9] (by decide +kernel) (by decide +kernel)
set_option maxRecDepth 20000 in
theorem gX2_plug_X2_isBus : GoodIn wsX2_plug (va_wsS RX2 86 yX2_isBus wsX2_isBus) := goodIn_app (goodIn_of _ (by decide +kernel)) ggX2_plug_X2_isBus
set_option maxRecDepth 20000 in
theorem ggX2_plug_X2_in : GoodIn wsX2_plug wsX2_in := goodIn_r _ [9] (by decide +kernel) (by decide +kernel)
set_option maxRecDepth 20000 in
theorem gX2_plug_X2_in : GoodIn wsX2_plug (va_wsS RX2 57 yX2_in wsX2_in) := goodIn_app (goodIn_of _ (by decide +kernel)) ggX2_plug_X2_in
set_option maxRecDepth 20000 in
theorem ggX2_plug_X2_isGoing : GoodIn wsX2_plug wsX2_isGoing := goodIn_r _ [13, 14, 15, 16, 21, 22, 23, 24, 25, 26, 27, 28, 29, 30, 31, 32, 33, 34, 35, 36, 37, 38] (by decide +kernel) (by decide +kernel)
set_option maxRecDepth 20000 in
theorem gX2_plug_X2_isGoing : GoodIn wsX2_plug (wsV RX2 112 RX2 yX2_isGoing wsX2_isGoing) := goodIn_app (goodIn_of _ (by decide +kernel)) ggX2_plug_X2_isGoing
set_option maxRecDepth 20000 in
theorem ggX2_plug_X2_unplug : GoodIn wsX2_plug wsX2_unplug := goodIn_r _ [20, 2, 21, 22, 23, 24, 25, 26, 27, 28, 29, 30, 31, 32, 33, 34, 35, 36, 37, 38] (by decide +kernel) (by decide +kernel)
set_option maxRecDepth 20000 in
theorem gX2_plug_X2_unplug : GoodIn wsX2_plug (wsV RX2 102 RX2 yX2_unplug wsX2_unplug) := goodIn_app (goodIn_of _ (by decide +kernel)) ggX2_plug_X2_unplug
theorem dX2_plug_0 : decode cX2_plug 0 = .ok (.aload_n 0, 1) := by decide +kernel
theorem dX2_plug_1 : decode cX2_plug 1 = .ok (.iload_n 1, 1) := by decide +kernel
theorem dX2_plug_2 : decode cX2_plug 2 = .ok (.invokestatic 86, 3) := by decide +kernel
theorem dX2_plug_5 : decode cX2_plug 5 = .ok (.ifCond .eq 12, 3) := by decide +kernel
theorem dX2_plug_8 : decode cX2_plug 8 = .ok (.iload_n 2, 1) := by decide +kernel
theorem dX2_plug_9 : decode cX2_plug 9 = .ok (.iconst 0, 1) := by decide +kernel
theorem dX2_plug_10 : decode cX2_plug 10 = .ok (.iconst 1, 1) := by decide +kernel
theorem dX2_plug_11 : decode cX2_plug 11 = .ok (.invokestatic 57, 3) := by decide +kernel
theorem dX2_plug_14 : decode cX2_plug 14 = .ok (.ifCond .ne 7, 3) := by decide +kernel
theorem dX2_plug_17 : decode cX2_plug 17 = .ok (.iconst 1, 1) := by decide +kernel
theorem dX2_plug_18 : decode cX2_plug 18 = .ok (.goto 16, 3) := by decide +kernel
theorem dX2_plug_21 : decode cX2_plug 21 = .ok (.aload_n 0, 1) := by decide +kernel
theorem dX2_plug_22 : decode cX2_plug 22 = .ok (.iload_n 1, 1) := by decide +kernel
theorem dX2_plug_23 : decode cX2_plug 23 = .ok (.invokevirtual 112, 3) := by decide +kernel
theorem dX2_plug_26 : decode cX2_plug 26 = .ok (.ifCond .eq 7, 3) := by decide +kernel
theorem dX2_plug_29 : decode cX2_plug 29 = .ok (.iconst 2, 1) := by decide +kernel
theorem dX2_plug_30 : decode cX2_plug 30 = .ok (.goto 4, 3) := by decide +kernel
theorem dX2_plug_33 : decode cX2_plug 33 = .ok (.iconst 0, 1) := by decide +kernel
theorem dX2_plug_34 : decode cX2_plug 34 = .ok (.putfield 51, 3) := by decide +kernel
theorem dX2_plug_37 : decode cX2_plug 37 = .ok (.aload_n 0, 1) := by decide +kernel
theorem dX2_plug_38 : decode cX2_plug 38 = .ok (.getfield 51, 3) := by decide +kernel
theorem dX2_plug_41 : decode cX2_plug 41 = .ok (.ifCond .le 5, 3) := by decide +kernel
theorem dX2_plug_44 : decode cX2_plug 44 = .ok (.iconst 0, 1) := by decide +kernel
theorem dX2_plug_45 : decode cX2_plug 45 = .ok (.ireturn, 1) := by decide +kernel
theorem dX2_plug_46 : decode cX2_plug 46 = .ok (.aload_n 0, 1) := by decide +kernel
theorem dX2_plug_47 : decode cX2_plug 47 = .ok (.getfield 38, 3) := by decide +kernel
theorem dX2_plug_50 : decode cX2_plug 50 = .ok (.iload_n 2, 1) := by decide +kernel
theorem dX2_plug_51 : decode cX2_plug 51 = .ok (.iaload, 1) := by decide +kernel
theorem dX2_plug_52 : decode cX2_plug 52 = .ok (.istore_n 3, 1) := by decide +kernel
theorem dX2_plug_53 : decode cX2_plug 53 = .ok (.aload_n 0, 1) := by decide +kernel
theorem dX2_plug_54 : decode cX2_plug 54 = .ok (.iload_n 1, 1) := by decide +kernel
theorem dX2_plug_55 : decode cX2_plug 55 = .ok (.invokevirtual 102, 3) := by decide +kernel
theorem dX2_plug_58 : decode cX2_plug 58 = .ok (.aload_n 0, 1) := by decide +kernel
theorem dX2_plug_59 : decode cX2_plug 59 = .ok (.getfield 38, 3) := by decide +kernel
theorem dX2_plug_62 : decode cX2_plug 62 = .ok (.iload_n 2, 1) := by decide +kernel
theorem dX2_plug_63 : decode cX2_plug 63 = .ok (.iload_n 1, 1) := by decide +kernel
theorem dX2_plug_64 : decode cX2_plug 64 = .ok (.iastore, 1) := by decide +kernel
theorem dX2_plug_65 : decode cX2_plug 65 = .ok (.iload_n 3, 1) := by decide +kernel
theorem dX2_plug_66 : decode cX2_plug 66 = .ok (.iload_n 1, 1) := by decide +kernel
theorem dX2_plug_67 : decode cX2_plug 67 = .ok (.if_icmp .ne 7, 3) := by decide +kernel
theorem dX2_plug_70 : decode cX2_plug 70 = .ok (.iconst (-1), 1) := by decide +kernel
theorem dX2_plug_71 : decode cX2_plug 71 = .ok (.goto 4, 3) := by decide +kernel
theorem dX2_plug_74 : decode cX2_plug 74 = .ok (.iload_n 3, 1) := by decide +kernel
theorem dX2_plug_75 : decode cX2_plug 75 = .ok (.ireturn, 1) := by decide +kernel
set_option maxRecDepth 20000 in
theorem ggX2_beginRuns_X2_unplug : GoodIn wsX2_beginRuns wsX2_unplug := goodIn_r _ [12, 13, 23, 24, 25, 26, 27, 28, 29, 30, 31, 32, 33, 34, 35, 36, 37, 38, 39, 40] (by decide +kernel) (by decide +kernel)
set_option maxRecDepth 20000 in
theorem gX2_beginRuns_X2_unplug : GoodIn wsX2_beginRuns (wsV RX2 102 RX2 yX2_unplug wsX2_unplug) := goodIn_app (goodIn_of _ (by decide +kernel)) ggX2_beginRuns_X2_unplug
set_option maxRecDepth 20000 in
theorem ggX2_beginRuns_X2_lose : GoodIn wsX2_beginRuns wsX2_lose := goodIn_r _ [17, 4, 18, 19, 20, 11, 21, 6, 22, 23, 24, 25, 26, 27, 28, 29, 30, 31, 32, 33, 34, 35, 36, 37, 38, 39, 40] (by decide +kernel) (by decide +kernel)
set_option maxRecDepth 20000 in
theorem gX2_beginRuns_X2_lose : GoodIn wsX2_beginRuns (wsV RX2 109 RX2 yX2_lose wsX2_lose) := goodIn_app (goodIn_of _ (by decide +kernel)) ggX2_beginRuns_X2_lose
theorem dX2_beginRuns_0 : decode cX2_beginRuns 0 = .ok (.iconst 0, 1) := by decide +kernel
theorem dX2_beginRuns_1 : decode cX2_beginRuns 1 = .ok (.istore_n 1, 1) := by decide +kernel
theorem dX2_beginRuns_2 : decode cX2_beginRuns 2 = .ok (.iload_n 1, 1) := by decide +kernel
theorem dX2_beginRuns_3 : decode cX2_beginRuns 3 = .ok (.aload_n 0, 1) := by decide +kernel
theorem dX2_beginRuns_4 : decode cX2_beginRuns 4 = .ok (.getfield 54, 3) := by decide +kernel
theorem dX2_beginRuns_7 : decode cX2_beginRuns 7 = .ok (.if_icmp .ge 99, 3) := by decide +kernel
theorem dX2_beginRuns_10 : decode cX2_beginRuns 10 = .ok (.aload_n 0, 1) := by decide +kernel
theorem dX2_beginRuns_11 : decode cX2_beginRuns 11 = .ok (.getfield 7, 3) := by decide +kernel
theorem dX2_beginRuns_14 : decode cX2_beginRuns 14 = .ok (.iload_n 1, 1) := by decide +kernel
theorem dX2_beginRuns_15 : decode cX2_beginRuns 15 = .ok (.iaload, 1) := by decide +kernel
theorem dX2_beginRuns_16 : decode cX2_beginRuns 16 = .ok (.aload_n 0, 1) := by decide +kernel
theorem dX2_beginRuns_17 : decode cX2_beginRuns 17 = .ok (.getfield 61, 3) := by decide +kernel
theorem dX2_beginRuns_20 : decode cX2_beginRuns 20 = .ok (.if_icmp .ne 53, 3) := by decide +kernel
theorem dX2_beginRuns_23 : decode cX2_beginRuns 23 = .ok (.aload_n 0, 1) := by decide +kernel
theorem dX2_beginRuns_24 : decode cX2_beginRuns 24 = .ok (.getfield 19, 3) := by decide +kernel
theorem dX2_beginRuns_27 : decode cX2_beginRuns 27 = .ok (.iload_n 1, 1) := by decide +kernel
theorem dX2_beginRuns_28 : decode cX2_beginRuns 28 = .ok (.iaload, 1) := by decide +kernel
theorem dX2_beginRuns_29 : decode cX2_beginRuns 29 = .ok (.iconst 1, 1) := by decide +kernel
theorem dX2_beginRuns_30 : decode cX2_beginRuns 30 = .ok (.if_icmp .ne 43, 3) := by decide +kernel
theorem dX2_beginRuns_33 : decode cX2_beginRuns 33 = .ok (.aload_n 0, 1) := by decide +kernel
theorem dX2_beginRuns_34 : decode cX2_beginRuns 34 = .ok (.getfield 19, 3) := by decide +kernel
theorem dX2_beginRuns_37 : decode cX2_beginRuns 37 = .ok (.iload_n 1, 1) := by decide +kernel
theorem dX2_beginRuns_38 : decode cX2_beginRuns 38 = .ok (.iconst 2, 1) := by decide +kernel
theorem dX2_beginRuns_39 : decode cX2_beginRuns 39 = .ok (.iastore, 1) := by decide +kernel
theorem dX2_beginRuns_40 : decode cX2_beginRuns 40 = .ok (.aload_n 0, 1) := by decide +kernel
theorem dX2_beginRuns_41 : decode cX2_beginRuns 41 = .ok (.getfield 28, 3) := by decide +kernel
theorem dX2_beginRuns_44 : decode cX2_beginRuns 44 = .ok (.aload_n 0, 1) := by decide +kernel
theorem dX2_beginRuns_45 : decode cX2_beginRuns 45 = .ok (.getfield 22, 3) := by decide +kernel
theorem dX2_beginRuns_48 : decode cX2_beginRuns 48 = .ok (.iload_n 1, 1) := by decide +kernel
theorem dX2_beginRuns_49 : decode cX2_beginRuns 49 = .ok (.iaload, 1) := by decide +kernel
theorem dX2_beginRuns_50 : decode cX2_beginRuns 50 = .ok (.dup2, 1) := by decide +kernel
theorem dX2_beginRuns_51 : decode cX2_beginRuns 51 = .ok (.iaload, 1) := by decide +kernel
theorem dX2_beginRuns_52 : decode cX2_beginRuns 52 = .ok (.aload_n 0, 1) := by decide +kernel
theorem dX2_beginRuns_53 : decode cX2_beginRuns 53 = .ok (.getfield 16, 3) := by decide +kernel
theorem dX2_beginRuns_56 : decode cX2_beginRuns 56 = .ok (.iload_n 1, 1) := by decide +kernel
theorem dX2_beginRuns_57 : decode cX2_beginRuns 57 = .ok (.iaload, 1) := by decide +kernel
theorem dX2_beginRuns_58 : decode cX2_beginRuns 58 = .ok (.isub, 1) := by decide +kernel
theorem dX2_beginRuns_59 : decode cX2_beginRuns 59 = .ok (.iastore, 1) := by decide +kernel
theorem dX2_beginRuns_60 : decode cX2_beginRuns 60 = .ok (.aload_n 0, 1) := by decide +kernel
theorem dX2_beginRuns_61 : decode cX2_beginRuns 61 = .ok (.aload_n 0, 1) := by decide +kernel
theorem dX2_beginRuns_62 : decode cX2_beginRuns 62 = .ok (.getfield 22, 3) := by decide +kernel
theorem dX2_beginRuns_65 : decode cX2_beginRuns 65 = .ok (.iload_n 1, 1) := by decide +kernel
theorem dX2_beginRuns_66 : decode cX2_beginRuns 66 = .ok (.iaload, 1) := by decide +kernel
theorem dX2_beginRuns_67 : decode cX2_beginRuns 67 = .ok (.invokevirtual 102, 3) := by decide +kernel
theorem dX2_beginRuns_70 : decode cX2_beginRuns 70 = .ok (.goto 30, 3) := by decide +kernel
theorem dX2_beginRuns_73 : decode cX2_beginRuns 73 = .ok (.aload_n 0, 1) := by decide +kernel
theorem dX2_beginRuns_74 : decode cX2_beginRuns 74 = .ok (.getfield 7, 3) := by decide +kernel
theorem dX2_beginRuns_77 : decode cX2_beginRuns 77 = .ok (.iload_n 1, 1) := by decide +kernel
theorem dX2_beginRuns_78 : decode cX2_beginRuns 78 = .ok (.iaload, 1) := by decide +kernel
theorem dX2_beginRuns_79 : decode cX2_beginRuns 79 = .ok (.aload_n 0, 1) := by decide +kernel
theorem dX2_beginRuns_80 : decode cX2_beginRuns 80 = .ok (.getfield 61, 3) := by decide +kernel
theorem dX2_beginRuns_83 : decode cX2_beginRuns 83 = .ok (.if_icmp .ne 17, 3) := by decide +kernel
theorem dX2_beginRuns_86 : decode cX2_beginRuns 86 = .ok (.aload_n 0, 1) := by decide +kernel
theorem dX2_beginRuns_87 : decode cX2_beginRuns 87 = .ok (.getfield 19, 3) := by decide +kernel
theorem dX2_beginRuns_90 : decode cX2_beginRuns 90 = .ok (.iload_n 1, 1) := by decide +kernel
theorem dX2_beginRuns_91 : decode cX2_beginRuns 91 = .ok (.iaload, 1) := by decide +kernel
theorem dX2_beginRuns_92 : decode cX2_beginRuns 92 = .ok (.ifCond .ne 8, 3) := by decide +kernel
theorem dX2_beginRuns_95 : decode cX2_beginRuns 95 = .ok (.aload_n 0, 1) := by decide +kernel
theorem dX2_beginRuns_96 : decode cX2_beginRuns 96 = .ok (.iload_n 1, 1) := by decide +kernel
theorem dX2_beginRuns_97 : decode cX2_beginRuns 97 = .ok (.invokevirtual 109, 3) := by decide +kernel
theorem dX2_beginRuns_100 : decode cX2_beginRuns 100 = .ok (.iinc 1 1, 3) := by decide +kernel
theorem dX2_beginRuns_103 : decode cX2_beginRuns 103 = .ok (.goto (-101), 3) := by decide +kernel
theorem dX2_beginRuns_106 : decode cX2_beginRuns 106 = .ok (.return_, 1) := by decide +kernel
set_option maxRecDepth 20000 in
theorem ggX2_advance_X2_in : GoodIn wsX2_advance wsX2_in := goodIn_r _ [11] (by decide +kernel) (by decide +kernel)
set_option maxRecDepth 20000 in
theorem gX2_advance_X2_in : GoodIn wsX2_advance (va_wsS RX2 57 yX2_in wsX2_in) := goodIn_app (goodIn_of _ (by decide +kernel)) ggX2_advance_X2_in
set_option maxRecDepth 20000 in
theorem ggX2_advance_X2_beginRuns : GoodIn wsX2_advance wsX2_beginRuns := goodIn_r _ [15, 5, 16, 1, 6, 4, 17, 18, 19, 20, 21, 10, 22, 3, 23, 24, 25, 26, 27, 28, 29, 30, 31, 32, 33, 34, 35, 36, 37, 38, 39, 40, 41, 42, 43, 44, 45, 46, 47, 48, 49] (by decide +kernel) (by decide +kernel)
set_option maxRecDepth 20000 in
theorem gX2_advance_X2_beginRuns : GoodIn wsX2_advance (wsV RX2 115 RX2 yX2_beginRuns wsX2_beginRuns) := goodIn_app (goodIn_of _ (by decide +kernel)) ggX2_advance_X2_beginRuns
theorem dX2_advance_0 : decode cX2_advance 0 = .ok (.aload_n 0, 1) := by decide +kernel
theorem dX2_advance_1 : decode cX2_advance 1 = .ok (.iload_n 1, 1) := by decide +kernel
theorem dX2_advance_2 : decode cX2_advance 2 = .ok (.iconst 1, 1) := by decide +kernel
theorem dX2_advance_3 : decode cX2_advance 3 = .ok (.sipush 1000, 3) := by decide +kernel
theorem dX2_advance_6 : decode cX2_advance 6 = .ok (.invokestatic 57, 3) := by decide +kernel
theorem dX2_advance_9 : decode cX2_advance 9 = .ok (.ifCond .ne 7, 3) := by decide +kernel
theorem dX2_advance_12 : decode cX2_advance 12 = .ok (.iconst 1, 1) := by decide +kernel
theorem dX2_advance_13 : decode cX2_advance 13 = .ok (.goto 20, 3) := by decide +kernel
theorem dX2_advance_16 : decode cX2_advance 16 = .ok (.aload_n 0, 1) := by decide +kernel
theorem dX2_advance_17 : decode cX2_advance 17 = .ok (.getfield 61, 3) := by decide +kernel
theorem dX2_advance_20 : decode cX2_advance 20 = .ok (.iload_n 1, 1) := by decide +kernel
theorem dX2_advance_21 : decode cX2_advance 21 = .ok (.iadd, 1) := by decide +kernel
theorem dX2_advance_22 : decode cX2_advance 22 = .ok (.sipush 30000, 3) := by decide +kernel
theorem dX2_advance_25 : decode cX2_advance 25 = .ok (.if_icmp .le 7, 3) := by decide +kernel
theorem dX2_advance_28 : decode cX2_advance 28 = .ok (.iconst 2, 1) := by decide +kernel
theorem dX2_advance_29 : decode cX2_advance 29 = .ok (.goto 4, 3) := by decide +kernel
theorem dX2_advance_32 : decode cX2_advance 32 = .ok (.iconst 0, 1) := by decide +kernel
theorem dX2_advance_33 : decode cX2_advance 33 = .ok (.putfield 51, 3) := by decide +kernel
theorem dX2_advance_36 : decode cX2_advance 36 = .ok (.iconst 0, 1) := by decide +kernel
theorem dX2_advance_37 : decode cX2_advance 37 = .ok (.istore_n 2, 1) := by decide +kernel
theorem dX2_advance_38 : decode cX2_advance 38 = .ok (.iload_n 2, 1) := by decide +kernel
theorem dX2_advance_39 : decode cX2_advance 39 = .ok (.iload_n 1, 1) := by decide +kernel
theorem dX2_advance_40 : decode cX2_advance 40 = .ok (.if_icmp .ge 135, 3) := by decide +kernel
theorem dX2_advance_43 : decode cX2_advance 43 = .ok (.aload_n 0, 1) := by decide +kernel
theorem dX2_advance_44 : decode cX2_advance 44 = .ok (.getfield 51, 3) := by decide +kernel
theorem dX2_advance_47 : decode cX2_advance 47 = .ok (.ifCond .ne 128, 3) := by decide +kernel
theorem dX2_advance_50 : decode cX2_advance 50 = .ok (.iconst 0, 1) := by decide +kernel
theorem dX2_advance_51 : decode cX2_advance 51 = .ok (.istore_n 3, 1) := by decide +kernel
theorem dX2_advance_52 : decode cX2_advance 52 = .ok (.iload_n 3, 1) := by decide +kernel
theorem dX2_advance_53 : decode cX2_advance 53 = .ok (.iconst 2, 1) := by decide +kernel
theorem dX2_advance_54 : decode cX2_advance 54 = .ok (.if_icmp .ge 46, 3) := by decide +kernel
theorem dX2_advance_57 : decode cX2_advance 57 = .ok (.aload_n 0, 1) := by decide +kernel
theorem dX2_advance_58 : decode cX2_advance 58 = .ok (.getfield 38, 3) := by decide +kernel
theorem dX2_advance_61 : decode cX2_advance 61 = .ok (.iload_n 3, 1) := by decide +kernel
theorem dX2_advance_62 : decode cX2_advance 62 = .ok (.iaload, 1) := by decide +kernel
theorem dX2_advance_63 : decode cX2_advance 63 = .ok (.istore 4, 2) := by decide +kernel
theorem dX2_advance_65 : decode cX2_advance 65 = .ok (.iload 4, 2) := by decide +kernel
theorem dX2_advance_67 : decode cX2_advance 67 = .ok (.iconst (-1), 1) := by decide +kernel
theorem dX2_advance_68 : decode cX2_advance 68 = .ok (.if_icmp .eq 26, 3) := by decide +kernel
theorem dX2_advance_71 : decode cX2_advance 71 = .ok (.aload_n 0, 1) := by decide +kernel
theorem dX2_advance_72 : decode cX2_advance 72 = .ok (.getfield 28, 3) := by decide +kernel
theorem dX2_advance_75 : decode cX2_advance 75 = .ok (.iload 4, 2) := by decide +kernel
theorem dX2_advance_77 : decode cX2_advance 77 = .ok (.iaload, 1) := by decide +kernel
theorem dX2_advance_78 : decode cX2_advance 78 = .ok (.bipush 100, 2) := by decide +kernel
theorem dX2_advance_80 : decode cX2_advance 80 = .ok (.if_icmp .ge 14, 3) := by decide +kernel
theorem dX2_advance_83 : decode cX2_advance 83 = .ok (.aload_n 0, 1) := by decide +kernel
theorem dX2_advance_84 : decode cX2_advance 84 = .ok (.getfield 28, 3) := by decide +kernel
theorem dX2_advance_87 : decode cX2_advance 87 = .ok (.iload 4, 2) := by decide +kernel
theorem dX2_advance_89 : decode cX2_advance 89 = .ok (.dup2, 1) := by decide +kernel
theorem dX2_advance_90 : decode cX2_advance 90 = .ok (.iaload, 1) := by decide +kernel
theorem dX2_advance_91 : decode cX2_advance 91 = .ok (.iconst 1, 1) := by decide +kernel
theorem dX2_advance_92 : decode cX2_advance 92 = .ok (.iadd, 1) := by decide +kernel
theorem dX2_advance_93 : decode cX2_advance 93 = .ok (.iastore, 1) := by decide +kernel
theorem dX2_advance_94 : decode cX2_advance 94 = .ok (.iinc 3 1, 3) := by decide +kernel
theorem dX2_advance_97 : decode cX2_advance 97 = .ok (.goto (-45), 3) := by decide +kernel
theorem dX2_advance_100 : decode cX2_advance 100 = .ok (.aload_n 0, 1) := by decide +kernel
theorem dX2_advance_101 : decode cX2_advance 101 = .ok (.dup, 1) := by decide +kernel
theorem dX2_advance_102 : decode cX2_advance 102 = .ok (.getfield 61, 3) := by decide +kernel
theorem dX2_advance_105 : decode cX2_advance 105 = .ok (.iconst 1, 1) := by decide +kernel
theorem dX2_advance_106 : decode cX2_advance 106 = .ok (.iadd, 1) := by decide +kernel
theorem dX2_advance_107 : decode cX2_advance 107 = .ok (.putfield 61, 3) := by decide +kernel
theorem dX2_advance_110 : decode cX2_advance 110 = .ok (.iconst 0, 1) := by decide +kernel
theorem dX2_advance_111 : decode cX2_advance 111 = .ok (.istore_n 3, 1) := by decide +kernel
theorem dX2_advance_112 : decode cX2_advance 112 = .ok (.iload_n 3, 1) := by decide +kernel
theorem dX2_advance_113 : decode cX2_advance 113 = .ok (.aload_n 0, 1) := by decide +kernel
theorem dX2_advance_114 : decode cX2_advance 114 = .ok (.getfield 54, 3) := by decide +kernel
theorem dX2_advance_117 : decode cX2_advance 117 = .ok (.if_icmp .ge 48, 3) := by decide +kernel
theorem dX2_advance_120 : decode cX2_advance 120 = .ok (.aload_n 0, 1) := by decide +kernel
theorem dX2_advance_121 : decode cX2_advance 121 = .ok (.getfield 19, 3) := by decide +kernel
theorem dX2_advance_124 : decode cX2_advance 124 = .ok (.iload_n 3, 1) := by decide +kernel
theorem dX2_advance_125 : decode cX2_advance 125 = .ok (.aload_n 0, 1) := by decide +kernel
theorem dX2_advance_126 : decode cX2_advance 126 = .ok (.getfield 19, 3) := by decide +kernel
theorem dX2_advance_129 : decode cX2_advance 129 = .ok (.iload_n 3, 1) := by decide +kernel
theorem dX2_advance_130 : decode cX2_advance 130 = .ok (.iaload, 1) := by decide +kernel
theorem dX2_advance_131 : decode cX2_advance 131 = .ok (.iconst 2, 1) := by decide +kernel
theorem dX2_advance_132 : decode cX2_advance 132 = .ok (.if_icmp .ne 20, 3) := by decide +kernel
theorem dX2_advance_135 : decode cX2_advance 135 = .ok (.aload_n 0, 1) := by decide +kernel
theorem dX2_advance_136 : decode cX2_advance 136 = .ok (.getfield 13, 3) := by decide +kernel
theorem dX2_advance_139 : decode cX2_advance 139 = .ok (.iload_n 3, 1) := by decide +kernel
theorem dX2_advance_140 : decode cX2_advance 140 = .ok (.iaload, 1) := by decide +kernel
theorem dX2_advance_141 : decode cX2_advance 141 = .ok (.aload_n 0, 1) := by decide +kernel
theorem dX2_advance_142 : decode cX2_advance 142 = .ok (.getfield 61, 3) := by decide +kernel
theorem dX2_advance_145 : decode cX2_advance 145 = .ok (.if_icmp .ne 7, 3) := by decide +kernel
theorem dX2_advance_148 : decode cX2_advance 148 = .ok (.iconst 3, 1) := by decide +kernel
theorem dX2_advance_149 : decode cX2_advance 149 = .ok (.goto 9, 3) := by decide +kernel
theorem dX2_advance_152 : decode cX2_advance 152 = .ok (.aload_n 0, 1) := by decide +kernel
theorem dX2_advance_153 : decode cX2_advance 153 = .ok (.getfield 19, 3) := by decide +kernel
theorem dX2_advance_156 : decode cX2_advance 156 = .ok (.iload_n 3, 1) := by decide +kernel
theorem dX2_advance_157 : decode cX2_advance 157 = .ok (.iaload, 1) := by decide +kernel
theorem dX2_advance_158 : decode cX2_advance 158 = .ok (.iastore, 1) := by decide +kernel
theorem dX2_advance_159 : decode cX2_advance 159 = .ok (.iinc 3 1, 3) := by decide +kernel
theorem dX2_advance_162 : decode cX2_advance 162 = .ok (.goto (-50), 3) := by decide +kernel
theorem dX2_advance_165 : decode cX2_advance 165 = .ok (.aload_n 0, 1) := by decide +kernel
theorem dX2_advance_166 : decode cX2_advance 166 = .ok (.invokevirtual 115, 3) := by decide +kernel
theorem dX2_advance_169 : decode cX2_advance 169 = .ok (.iinc 2 1, 3) := by decide +kernel
theorem dX2_advance_172 : decode cX2_advance 172 = .ok (.goto (-134), 3) := by decide +kernel
theorem dX2_advance_175 : decode cX2_advance 175 = .ok (.aload_n 0, 1) := by decide +kernel
theorem dX2_advance_176 : decode cX2_advance 176 = .ok (.getfield 51, 3) := by decide +kernel
theorem dX2_advance_179 : decode cX2_advance 179 = .ok (.ifCond .ne 10, 3) := by decide +kernel
theorem dX2_advance_182 : decode cX2_advance 182 = .ok (.aload_n 0, 1) := by decide +kernel
theorem dX2_advance_183 : decode cX2_advance 183 = .ok (.getfield 61, 3) := by decide +kernel
theorem dX2_advance_186 : decode cX2_advance 186 = .ok (.goto 4, 3) := by decide +kernel
theorem dX2_advance_189 : decode cX2_advance 189 = .ok (.iconst 0, 1) := by decide +kernel
theorem dX2_advance_190 : decode cX2_advance 190 = .ok (.ireturn, 1) := by decide +kernel
theorem dX2_minute_0 : decode cX2_minute 0 = .ok (.aload_n 0, 1) := by decide +kernel
theorem dX2_minute_1 : decode cX2_minute 1 = .ok (.iconst 0, 1) := by decide +kernel
theorem dX2_minute_2 : decode cX2_minute 2 = .ok (.putfield 51, 3) := by decide +kernel
theorem dX2_minute_5 : decode cX2_minute 5 = .ok (.aload_n 0, 1) := by decide +kernel
theorem dX2_minute_6 : decode cX2_minute 6 = .ok (.getfield 61, 3) := by decide +kernel
theorem dX2_minute_9 : decode cX2_minute 9 = .ok (.ireturn, 1) := by decide +kernel
set_option maxRecDepth 20000 in
theorem ggX2_leader_X2_leads : GoodIn wsX2_leader wsX2_leads := goodIn_r _ [6, 7, 8, 9, 10, 11, 12, 13, 14, 15, 16, 17, 18, 19, 20, 21, 22, 23, 24, 25, 26, 27] (by decide +kernel) (by decide +kernel)
set_option maxRecDepth 20000 in
theorem gX2_leader_X2_leads : GoodIn wsX2_leader (wsV RX2 79 RX2 yX2_leads wsX2_leads) := goodIn_app (goodIn_of _ (by decide +kernel)) ggX2_leader_X2_leads
theorem dX2_leader_0 : decode cX2_leader 0 = .ok (.aload_n 0, 1) := by decide +kernel
theorem dX2_leader_1 : decode cX2_leader 1 = .ok (.iconst 0, 1) := by decide +kernel
theorem dX2_leader_2 : decode cX2_leader 2 = .ok (.putfield 51, 3) := by decide +kernel
theorem dX2_leader_5 : decode cX2_leader 5 = .ok (.aload_n 0, 1) := by decide +kernel
theorem dX2_leader_6 : decode cX2_leader 6 = .ok (.invokevirtual 79, 3) := by decide +kernel
theorem dX2_leader_9 : decode cX2_leader 9 = .ok (.ireturn, 1) := by decide +kernel
theorem dX2_runs_0 : decode cX2_runs 0 = .ok (.aload_n 0, 1) := by decide +kernel
theorem dX2_runs_1 : decode cX2_runs 1 = .ok (.iconst 0, 1) := by decide +kernel
theorem dX2_runs_2 : decode cX2_runs 2 = .ok (.putfield 51, 3) := by decide +kernel
theorem dX2_runs_5 : decode cX2_runs 5 = .ok (.aload_n 0, 1) := by decide +kernel
theorem dX2_runs_6 : decode cX2_runs 6 = .ok (.getfield 54, 3) := by decide +kernel
theorem dX2_runs_9 : decode cX2_runs 9 = .ok (.ireturn, 1) := by decide +kernel
theorem dX2_orders_0 : decode cX2_orders 0 = .ok (.aload_n 0, 1) := by decide +kernel
theorem dX2_orders_1 : decode cX2_orders 1 = .ok (.iconst 0, 1) := by decide +kernel
theorem dX2_orders_2 : decode cX2_orders 2 = .ok (.putfield 51, 3) := by decide +kernel
theorem dX2_orders_5 : decode cX2_orders 5 = .ok (.aload_n 0, 1) := by decide +kernel
theorem dX2_orders_6 : decode cX2_orders 6 = .ok (.getfield 99, 3) := by decide +kernel
theorem dX2_orders_9 : decode cX2_orders 9 = .ok (.ireturn, 1) := by decide +kernel
set_option maxRecDepth 20000 in
theorem ggX2_orderAt_X2_in : GoodIn wsX2_orderAt wsX2_in := goodIn_r _ [7] (by decide +kernel) (by decide +kernel)
set_option maxRecDepth 20000 in
theorem gX2_orderAt_X2_in : GoodIn wsX2_orderAt (va_wsS RX2 57 yX2_in wsX2_in) := goodIn_app (goodIn_of _ (by decide +kernel)) ggX2_orderAt_X2_in
theorem dX2_orderAt_0 : decode cX2_orderAt 0 = .ok (.aload_n 0, 1) := by decide +kernel
theorem dX2_orderAt_1 : decode cX2_orderAt 1 = .ok (.iload_n 1, 1) := by decide +kernel
theorem dX2_orderAt_2 : decode cX2_orderAt 2 = .ok (.iconst 0, 1) := by decide +kernel
theorem dX2_orderAt_3 : decode cX2_orderAt 3 = .ok (.aload_n 0, 1) := by decide +kernel
theorem dX2_orderAt_4 : decode cX2_orderAt 4 = .ok (.getfield 99, 3) := by decide +kernel
theorem dX2_orderAt_7 : decode cX2_orderAt 7 = .ok (.iconst 1, 1) := by decide +kernel
theorem dX2_orderAt_8 : decode cX2_orderAt 8 = .ok (.isub, 1) := by decide +kernel
theorem dX2_orderAt_9 : decode cX2_orderAt 9 = .ok (.invokestatic 57, 3) := by decide +kernel
theorem dX2_orderAt_12 : decode cX2_orderAt 12 = .ok (.ifCond .eq 7, 3) := by decide +kernel
theorem dX2_orderAt_15 : decode cX2_orderAt 15 = .ok (.iconst 0, 1) := by decide +kernel
theorem dX2_orderAt_16 : decode cX2_orderAt 16 = .ok (.goto 4, 3) := by decide +kernel
theorem dX2_orderAt_19 : decode cX2_orderAt 19 = .ok (.iconst 1, 1) := by decide +kernel
theorem dX2_orderAt_20 : decode cX2_orderAt 20 = .ok (.putfield 51, 3) := by decide +kernel
theorem dX2_orderAt_23 : decode cX2_orderAt 23 = .ok (.aload_n 0, 1) := by decide +kernel
theorem dX2_orderAt_24 : decode cX2_orderAt 24 = .ok (.getfield 51, 3) := by decide +kernel
theorem dX2_orderAt_27 : decode cX2_orderAt 27 = .ok (.ifCond .ne 12, 3) := by decide +kernel
theorem dX2_orderAt_30 : decode cX2_orderAt 30 = .ok (.aload_n 0, 1) := by decide +kernel
theorem dX2_orderAt_31 : decode cX2_orderAt 31 = .ok (.getfield 41, 3) := by decide +kernel
theorem dX2_orderAt_34 : decode cX2_orderAt 34 = .ok (.iload_n 1, 1) := by decide +kernel
theorem dX2_orderAt_35 : decode cX2_orderAt 35 = .ok (.iaload, 1) := by decide +kernel
theorem dX2_orderAt_36 : decode cX2_orderAt 36 = .ok (.goto 4, 3) := by decide +kernel
theorem dX2_orderAt_39 : decode cX2_orderAt 39 = .ok (.iconst 0, 1) := by decide +kernel
theorem dX2_orderAt_40 : decode cX2_orderAt 40 = .ok (.ireturn, 1) := by decide +kernel
set_option maxRecDepth 20000 in
theorem ggX2_asksFor_X2_isRun : GoodIn wsX2_asksFor wsX2_isRun := goodIn_r _ [6, 7, 8, 9, 5, 10, 11, 12, 13, 14, 15, 16, 17, 18, 19, 20, 21, 22, 23, 24, 25, 26, 27, 28] (by decide +kernel) (by decide +kernel)
set_option maxRecDepth 20000 in
theorem gX2_asksFor_X2_isRun : GoodIn wsX2_asksFor (wsV RX2 83 RX2 yX2_isRun wsX2_isRun) := goodIn_app (goodIn_of _ (by decide +kernel)) ggX2_asksFor_X2_isRun
theorem dX2_asksFor_0 : decode cX2_asksFor 0 = .ok (.aload_n 0, 1) := by decide +kernel
theorem dX2_asksFor_1 : decode cX2_asksFor 1 = .ok (.aload_n 0, 1) := by decide +kernel
theorem dX2_asksFor_2 : decode cX2_asksFor 2 = .ok (.iload_n 1, 1) := by decide +kernel
theorem dX2_asksFor_3 : decode cX2_asksFor 3 = .ok (.invokevirtual 83, 3) := by decide +kernel
theorem dX2_asksFor_6 : decode cX2_asksFor 6 = .ok (.ifCond .eq 7, 3) := by decide +kernel
theorem dX2_asksFor_9 : decode cX2_asksFor 9 = .ok (.iconst 0, 1) := by decide +kernel
theorem dX2_asksFor_10 : decode cX2_asksFor 10 = .ok (.goto 4, 3) := by decide +kernel
theorem dX2_asksFor_13 : decode cX2_asksFor 13 = .ok (.iconst 1, 1) := by decide +kernel
theorem dX2_asksFor_14 : decode cX2_asksFor 14 = .ok (.putfield 51, 3) := by decide +kernel
theorem dX2_asksFor_17 : decode cX2_asksFor 17 = .ok (.aload_n 0, 1) := by decide +kernel
theorem dX2_asksFor_18 : decode cX2_asksFor 18 = .ok (.getfield 51, 3) := by decide +kernel
theorem dX2_asksFor_21 : decode cX2_asksFor 21 = .ok (.ifCond .ne 7, 3) := by decide +kernel
theorem dX2_asksFor_24 : decode cX2_asksFor 24 = .ok (.iconst 1, 1) := by decide +kernel
theorem dX2_asksFor_25 : decode cX2_asksFor 25 = .ok (.goto 4, 3) := by decide +kernel
theorem dX2_asksFor_28 : decode cX2_asksFor 28 = .ok (.iconst 0, 1) := by decide +kernel
theorem dX2_asksFor_29 : decode cX2_asksFor 29 = .ok (.ireturn, 1) := by decide +kernel
set_option maxRecDepth 20000 in
theorem ggX2_stateOf_X2_asksFor : GoodIn wsX2_stateOf wsX2_asksFor := goodIn_r _ [6, 7, 8, 9, 10, 5, 11, 12, 13, 14, 15, 16, 17, 18, 19, 20, 21, 22, 23, 24, 25, 26, 27, 28, 29, 30, 31, 32, 33] (by decide +kernel) (by decide +kernel)
set_option maxRecDepth 20000 in
theorem gX2_stateOf_X2_asksFor : GoodIn wsX2_stateOf (wsV RX2 118 RX2 yX2_asksFor wsX2_asksFor) := goodIn_app (goodIn_of _ (by decide +kernel)) ggX2_stateOf_X2_asksFor
theorem dX2_stateOf_0 : decode cX2_stateOf 0 = .ok (.aload_n 0, 1) := by decide +kernel
theorem dX2_stateOf_1 : decode cX2_stateOf 1 = .ok (.iload_n 1, 1) := by decide +kernel
theorem dX2_stateOf_2 : decode cX2_stateOf 2 = .ok (.invokevirtual 118, 3) := by decide +kernel
theorem dX2_stateOf_5 : decode cX2_stateOf 5 = .ok (.ifCond .eq 12, 3) := by decide +kernel
theorem dX2_stateOf_8 : decode cX2_stateOf 8 = .ok (.aload_n 0, 1) := by decide +kernel
theorem dX2_stateOf_9 : decode cX2_stateOf 9 = .ok (.getfield 19, 3) := by decide +kernel
theorem dX2_stateOf_12 : decode cX2_stateOf 12 = .ok (.iload_n 1, 1) := by decide +kernel
theorem dX2_stateOf_13 : decode cX2_stateOf 13 = .ok (.iaload, 1) := by decide +kernel
theorem dX2_stateOf_14 : decode cX2_stateOf 14 = .ok (.goto 4, 3) := by decide +kernel
theorem dX2_stateOf_17 : decode cX2_stateOf 17 = .ok (.iconst 0, 1) := by decide +kernel
theorem dX2_stateOf_18 : decode cX2_stateOf 18 = .ok (.ireturn, 1) := by decide +kernel
set_option maxRecDepth 20000 in
theorem ggX2_busOf_X2_asksFor : GoodIn wsX2_busOf wsX2_asksFor := goodIn_r _ [6, 7, 8, 9, 10, 5, 11, 12, 13, 14, 15, 16, 17, 18, 19, 20, 21, 22, 23, 24, 25, 26, 27, 28, 29, 30, 31, 32, 33] (by decide +kernel) (by decide +kernel)
set_option maxRecDepth 20000 in
theorem gX2_busOf_X2_asksFor : GoodIn wsX2_busOf (wsV RX2 118 RX2 yX2_asksFor wsX2_asksFor) := goodIn_app (goodIn_of _ (by decide +kernel)) ggX2_busOf_X2_asksFor
theorem dX2_busOf_0 : decode cX2_busOf 0 = .ok (.aload_n 0, 1) := by decide +kernel
theorem dX2_busOf_1 : decode cX2_busOf 1 = .ok (.iload_n 1, 1) := by decide +kernel
theorem dX2_busOf_2 : decode cX2_busOf 2 = .ok (.invokevirtual 118, 3) := by decide +kernel
theorem dX2_busOf_5 : decode cX2_busOf 5 = .ok (.ifCond .eq 12, 3) := by decide +kernel
theorem dX2_busOf_8 : decode cX2_busOf 8 = .ok (.aload_n 0, 1) := by decide +kernel
theorem dX2_busOf_9 : decode cX2_busOf 9 = .ok (.getfield 22, 3) := by decide +kernel
theorem dX2_busOf_12 : decode cX2_busOf 12 = .ok (.iload_n 1, 1) := by decide +kernel
theorem dX2_busOf_13 : decode cX2_busOf 13 = .ok (.iaload, 1) := by decide +kernel
theorem dX2_busOf_14 : decode cX2_busOf 14 = .ok (.goto 4, 3) := by decide +kernel
theorem dX2_busOf_17 : decode cX2_busOf 17 = .ok (.iconst 0, 1) := by decide +kernel
theorem dX2_busOf_18 : decode cX2_busOf 18 = .ok (.ireturn, 1) := by decide +kernel
set_option maxRecDepth 20000 in
theorem ggX2_driverOf_X2_asksFor : GoodIn wsX2_driverOf wsX2_asksFor := goodIn_r _ [6, 7, 8, 9, 10, 5, 11, 12, 13, 14, 15, 16, 17, 18, 19, 20, 21, 22, 23, 24, 25, 26, 27, 28, 29, 30, 31, 32, 33] (by decide +kernel) (by decide +kernel)
set_option maxRecDepth 20000 in
theorem gX2_driverOf_X2_asksFor : GoodIn wsX2_driverOf (wsV RX2 118 RX2 yX2_asksFor wsX2_asksFor) := goodIn_app (goodIn_of _ (by decide +kernel)) ggX2_driverOf_X2_asksFor
theorem dX2_driverOf_0 : decode cX2_driverOf 0 = .ok (.aload_n 0, 1) := by decide +kernel
theorem dX2_driverOf_1 : decode cX2_driverOf 1 = .ok (.iload_n 1, 1) := by decide +kernel
theorem dX2_driverOf_2 : decode cX2_driverOf 2 = .ok (.invokevirtual 118, 3) := by decide +kernel
theorem dX2_driverOf_5 : decode cX2_driverOf 5 = .ok (.ifCond .eq 12, 3) := by decide +kernel
theorem dX2_driverOf_8 : decode cX2_driverOf 8 = .ok (.aload_n 0, 1) := by decide +kernel
theorem dX2_driverOf_9 : decode cX2_driverOf 9 = .ok (.getfield 25, 3) := by decide +kernel
theorem dX2_driverOf_12 : decode cX2_driverOf 12 = .ok (.iload_n 1, 1) := by decide +kernel
theorem dX2_driverOf_13 : decode cX2_driverOf 13 = .ok (.iaload, 1) := by decide +kernel
theorem dX2_driverOf_14 : decode cX2_driverOf 14 = .ok (.goto 4, 3) := by decide +kernel
theorem dX2_driverOf_17 : decode cX2_driverOf 17 = .ok (.iconst 0, 1) := by decide +kernel
theorem dX2_driverOf_18 : decode cX2_driverOf 18 = .ok (.ireturn, 1) := by decide +kernel
set_option maxRecDepth 20000 in
theorem ggX2_charge_X2_isBus : GoodIn wsX2_charge wsX2_isBus := goodIn_r _ [6, 7, 8, 5, 9] (by decide +kernel) (by decide +kernel)
set_option maxRecDepth 20000 in
theorem gX2_charge_X2_isBus : GoodIn wsX2_charge (va_wsS RX2 86 yX2_isBus wsX2_isBus) := goodIn_app (goodIn_of _ (by decide +kernel)) ggX2_charge_X2_isBus
theorem dX2_charge_0 : decode cX2_charge 0 = .ok (.aload_n 0, 1) := by decide +kernel
theorem dX2_charge_1 : decode cX2_charge 1 = .ok (.iload_n 1, 1) := by decide +kernel
theorem dX2_charge_2 : decode cX2_charge 2 = .ok (.invokestatic 86, 3) := by decide +kernel
theorem dX2_charge_5 : decode cX2_charge 5 = .ok (.ifCond .eq 7, 3) := by decide +kernel
theorem dX2_charge_8 : decode cX2_charge 8 = .ok (.iconst 0, 1) := by decide +kernel
theorem dX2_charge_9 : decode cX2_charge 9 = .ok (.goto 4, 3) := by decide +kernel
theorem dX2_charge_12 : decode cX2_charge 12 = .ok (.iconst 1, 1) := by decide +kernel
theorem dX2_charge_13 : decode cX2_charge 13 = .ok (.putfield 51, 3) := by decide +kernel
theorem dX2_charge_16 : decode cX2_charge 16 = .ok (.aload_n 0, 1) := by decide +kernel
theorem dX2_charge_17 : decode cX2_charge 17 = .ok (.getfield 51, 3) := by decide +kernel
theorem dX2_charge_20 : decode cX2_charge 20 = .ok (.ifCond .ne 12, 3) := by decide +kernel
theorem dX2_charge_23 : decode cX2_charge 23 = .ok (.aload_n 0, 1) := by decide +kernel
theorem dX2_charge_24 : decode cX2_charge 24 = .ok (.getfield 28, 3) := by decide +kernel
theorem dX2_charge_27 : decode cX2_charge 27 = .ok (.iload_n 1, 1) := by decide +kernel
theorem dX2_charge_28 : decode cX2_charge 28 = .ok (.iaload, 1) := by decide +kernel
theorem dX2_charge_29 : decode cX2_charge 29 = .ok (.goto 4, 3) := by decide +kernel
theorem dX2_charge_32 : decode cX2_charge 32 = .ok (.iconst 0, 1) := by decide +kernel
theorem dX2_charge_33 : decode cX2_charge 33 = .ok (.ireturn, 1) := by decide +kernel
set_option maxRecDepth 20000 in
theorem ggX2_promised_X2_isBus : GoodIn wsX2_promised wsX2_isBus := goodIn_r _ [5, 6, 7, 4, 8] (by decide +kernel) (by decide +kernel)
set_option maxRecDepth 20000 in
theorem gX2_promised_X2_isBus : GoodIn wsX2_promised (va_wsS RX2 86 yX2_isBus wsX2_isBus) := goodIn_app (goodIn_of _ (by decide +kernel)) ggX2_promised_X2_isBus
set_option maxRecDepth 20000 in
theorem ggX2_promised_X2_promisedOf : GoodIn wsX2_promised wsX2_promisedOf := goodIn_r _ [12, 13, 14, 15, 16, 17, 18, 19, 20, 21, 22, 23, 24, 25, 26, 27, 28, 29, 30, 31, 32, 33, 34] (by decide +kernel) (by decide +kernel)
set_option maxRecDepth 20000 in
theorem gX2_promised_X2_promisedOf : GoodIn wsX2_promised (wsV RX2 67 RX2 yX2_promisedOf wsX2_promisedOf) := goodIn_app (goodIn_of _ (by decide +kernel)) ggX2_promised_X2_promisedOf
theorem dX2_promised_0 : decode cX2_promised 0 = .ok (.aload_n 0, 1) := by decide +kernel
theorem dX2_promised_1 : decode cX2_promised 1 = .ok (.iload_n 1, 1) := by decide +kernel
