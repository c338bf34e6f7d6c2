theorem dL_leader_11 : decode cL_leader 11 = .ok (.iaload, 1) := by decide +kernel
theorem dL_leader_12 : decode cL_leader 12 = .ok (.iconst 1, 1) := by decide +kernel
theorem dL_leader_13 : decode cL_leader 13 = .ok (.isub, 1) := by decide +kernel
theorem dL_leader_14 : decode cL_leader 14 = .ok (.goto 4, 3) := by decide +kernel
theorem dL_leader_17 : decode cL_leader 17 = .ok (.iconst (-1), 1) := by decide +kernel
theorem dL_leader_18 : decode cL_leader 18 = .ok (.ireturn, 1) := by decide +kernel
theorem dL_promised_0 : decode cL_promised 0 = .ok (.iconst 0, 1) := by decide +kernel
theorem dL_promised_1 : decode cL_promised 1 = .ok (.istore 5, 2) := by decide +kernel
theorem dL_promised_3 : decode cL_promised 3 = .ok (.iconst 0, 1) := by decide +kernel
theorem dL_promised_4 : decode cL_promised 4 = .ok (.istore 6, 2) := by decide +kernel
theorem dL_promised_6 : decode cL_promised 6 = .ok (.iload 6, 2) := by decide +kernel
theorem dL_promised_8 : decode cL_promised 8 = .ok (.aload_n 0, 1) := by decide +kernel
theorem dL_promised_9 : decode cL_promised 9 = .ok (.iconst 1, 1) := by decide +kernel
theorem dL_promised_10 : decode cL_promised 10 = .ok (.iaload, 1) := by decide +kernel
theorem dL_promised_11 : decode cL_promised 11 = .ok (.if_icmp .ge 45, 3) := by decide +kernel
theorem dL_promised_14 : decode cL_promised 14 = .ok (.iload 5, 2) := by decide +kernel
theorem dL_promised_16 : decode cL_promised 16 = .ok (.aload_n 2, 1) := by decide +kernel
theorem dL_promised_17 : decode cL_promised 17 = .ok (.iload 6, 2) := by decide +kernel
theorem dL_promised_19 : decode cL_promised 19 = .ok (.iaload, 1) := by decide +kernel
theorem dL_promised_20 : decode cL_promised 20 = .ok (.iconst 1, 1) := by decide +kernel
theorem dL_promised_21 : decode cL_promised 21 = .ok (.if_icmp .ne 25, 3) := by decide +kernel
theorem dL_promised_24 : decode cL_promised 24 = .ok (.aload_n 3, 1) := by decide +kernel
theorem dL_promised_25 : decode cL_promised 25 = .ok (.iload 6, 2) := by decide +kernel
theorem dL_promised_27 : decode cL_promised 27 = .ok (.iaload, 1) := by decide +kernel
theorem dL_promised_28 : decode cL_promised 28 = .ok (.iload 4, 2) := by decide +kernel
theorem dL_promised_30 : decode cL_promised 30 = .ok (.iconst 1, 1) := by decide +kernel
theorem dL_promised_31 : decode cL_promised 31 = .ok (.iadd, 1) := by decide +kernel
theorem dL_promised_32 : decode cL_promised 32 = .ok (.if_icmp .ne 14, 3) := by decide +kernel
theorem dL_promised_35 : decode cL_promised 35 = .ok (.aload_n 1, 1) := by decide +kernel
theorem dL_promised_36 : decode cL_promised 36 = .ok (.iconst 3, 1) := by decide +kernel
theorem dL_promised_37 : decode cL_promised 37 = .ok (.iload 6, 2) := by decide +kernel
theorem dL_promised_39 : decode cL_promised 39 = .ok (.imul, 1) := by decide +kernel
theorem dL_promised_40 : decode cL_promised 40 = .ok (.iconst 2, 1) := by decide +kernel
theorem dL_promised_41 : decode cL_promised 41 = .ok (.iadd, 1) := by decide +kernel
theorem dL_promised_42 : decode cL_promised 42 = .ok (.iaload, 1) := by decide +kernel
theorem dL_promised_43 : decode cL_promised 43 = .ok (.goto 4, 3) := by decide +kernel
theorem dL_promised_46 : decode cL_promised 46 = .ok (.iconst 0, 1) := by decide +kernel
theorem dL_promised_47 : decode cL_promised 47 = .ok (.iadd, 1) := by decide +kernel
theorem dL_promised_48 : decode cL_promised 48 = .ok (.istore 5, 2) := by decide +kernel
theorem dL_promised_50 : decode cL_promised 50 = .ok (.iinc 6 1, 3) := by decide +kernel
theorem dL_promised_53 : decode cL_promised 53 = .ok (.goto (-47), 3) := by decide +kernel
theorem dL_promised_56 : decode cL_promised 56 = .ok (.iload 5, 2) := by decide +kernel
theorem dL_promised_58 : decode cL_promised 58 = .ok (.ireturn, 1) := by decide +kernel
set_option maxRecDepth 20000 in
theorem ggL_fitsBus_L_promised : GoodIn wsL_fitsBus wsL_promised := goodIn_r _ [4] (by decide +kernel) (by decide +kernel)
set_option maxRecDepth 20000 in
theorem gL_fitsBus_L_promised : GoodIn wsL_fitsBus (va_wsS RL 7 yL_promised wsL_promised) := goodIn_app (goodIn_of _ (by decide +kernel)) ggL_fitsBus_L_promised
theorem dL_fitsBus_0 : decode cL_fitsBus 0 = .ok (.iconst 0, 1) := by decide +kernel
theorem dL_fitsBus_1 : decode cL_fitsBus 1 = .ok (.istore 7, 2) := by decide +kernel
theorem dL_fitsBus_3 : decode cL_fitsBus 3 = .ok (.iconst 0, 1) := by decide +kernel
theorem dL_fitsBus_4 : decode cL_fitsBus 4 = .ok (.istore 8, 2) := by decide +kernel
theorem dL_fitsBus_6 : decode cL_fitsBus 6 = .ok (.iload 8, 2) := by decide +kernel
theorem dL_fitsBus_8 : decode cL_fitsBus 8 = .ok (.aload_n 0, 1) := by decide +kernel
theorem dL_fitsBus_9 : decode cL_fitsBus 9 = .ok (.iconst 1, 1) := by decide +kernel
theorem dL_fitsBus_10 : decode cL_fitsBus 10 = .ok (.iaload, 1) := by decide +kernel
theorem dL_fitsBus_11 : decode cL_fitsBus 11 = .ok (.if_icmp .ge 132, 3) := by decide +kernel
theorem dL_fitsBus_14 : decode cL_fitsBus 14 = .ok (.aload_n 1, 1) := by decide +kernel
theorem dL_fitsBus_15 : decode cL_fitsBus 15 = .ok (.iconst 3, 1) := by decide +kernel
theorem dL_fitsBus_16 : decode cL_fitsBus 16 = .ok (.iload 8, 2) := by decide +kernel
theorem dL_fitsBus_18 : decode cL_fitsBus 18 = .ok (.imul, 1) := by decide +kernel
theorem dL_fitsBus_19 : decode cL_fitsBus 19 = .ok (.iaload, 1) := by decide +kernel
theorem dL_fitsBus_20 : decode cL_fitsBus 20 = .ok (.aload_n 1, 1) := by decide +kernel
theorem dL_fitsBus_21 : decode cL_fitsBus 21 = .ok (.iconst 3, 1) := by decide +kernel
theorem dL_fitsBus_22 : decode cL_fitsBus 22 = .ok (.iload 6, 2) := by decide +kernel
theorem dL_fitsBus_24 : decode cL_fitsBus 24 = .ok (.imul, 1) := by decide +kernel
theorem dL_fitsBus_25 : decode cL_fitsBus 25 = .ok (.iaload, 1) := by decide +kernel
theorem dL_fitsBus_26 : decode cL_fitsBus 26 = .ok (.if_icmp .le 12, 3) := by decide +kernel
theorem dL_fitsBus_29 : decode cL_fitsBus 29 = .ok (.aload_n 1, 1) := by decide +kernel
theorem dL_fitsBus_30 : decode cL_fitsBus 30 = .ok (.iconst 3, 1) := by decide +kernel
theorem dL_fitsBus_31 : decode cL_fitsBus 31 = .ok (.iload 8, 2) := by decide +kernel
theorem dL_fitsBus_33 : decode cL_fitsBus 33 = .ok (.imul, 1) := by decide +kernel
theorem dL_fitsBus_34 : decode cL_fitsBus 34 = .ok (.iaload, 1) := by decide +kernel
theorem dL_fitsBus_35 : decode cL_fitsBus 35 = .ok (.goto 9, 3) := by decide +kernel
theorem dL_fitsBus_38 : decode cL_fitsBus 38 = .ok (.aload_n 1, 1) := by decide +kernel
theorem dL_fitsBus_39 : decode cL_fitsBus 39 = .ok (.iconst 3, 1) := by decide +kernel
theorem dL_fitsBus_40 : decode cL_fitsBus 40 = .ok (.iload 6, 2) := by decide +kernel
theorem dL_fitsBus_42 : decode cL_fitsBus 42 = .ok (.imul, 1) := by decide +kernel
theorem dL_fitsBus_43 : decode cL_fitsBus 43 = .ok (.iaload, 1) := by decide +kernel
theorem dL_fitsBus_44 : decode cL_fitsBus 44 = .ok (.istore 9, 2) := by decide +kernel
theorem dL_fitsBus_46 : decode cL_fitsBus 46 = .ok (.aload_n 1, 1) := by decide +kernel
theorem dL_fitsBus_47 : decode cL_fitsBus 47 = .ok (.iconst 3, 1) := by decide +kernel
theorem dL_fitsBus_48 : decode cL_fitsBus 48 = .ok (.iload 8, 2) := by decide +kernel
theorem dL_fitsBus_50 : decode cL_fitsBus 50 = .ok (.imul, 1) := by decide +kernel
theorem dL_fitsBus_51 : decode cL_fitsBus 51 = .ok (.iconst 1, 1) := by decide +kernel
theorem dL_fitsBus_52 : decode cL_fitsBus 52 = .ok (.iadd, 1) := by decide +kernel
theorem dL_fitsBus_53 : decode cL_fitsBus 53 = .ok (.iaload, 1) := by decide +kernel
theorem dL_fitsBus_54 : decode cL_fitsBus 54 = .ok (.aload_n 1, 1) := by decide +kernel
theorem dL_fitsBus_55 : decode cL_fitsBus 55 = .ok (.iconst 3, 1) := by decide +kernel
theorem dL_fitsBus_56 : decode cL_fitsBus 56 = .ok (.iload 6, 2) := by decide +kernel
theorem dL_fitsBus_58 : decode cL_fitsBus 58 = .ok (.imul, 1) := by decide +kernel
theorem dL_fitsBus_59 : decode cL_fitsBus 59 = .ok (.iconst 1, 1) := by decide +kernel
theorem dL_fitsBus_60 : decode cL_fitsBus 60 = .ok (.iadd, 1) := by decide +kernel
theorem dL_fitsBus_61 : decode cL_fitsBus 61 = .ok (.iaload, 1) := by decide +kernel
theorem dL_fitsBus_62 : decode cL_fitsBus 62 = .ok (.if_icmp .ge 14, 3) := by decide +kernel
theorem dL_fitsBus_65 : decode cL_fitsBus 65 = .ok (.aload_n 1, 1) := by decide +kernel
theorem dL_fitsBus_66 : decode cL_fitsBus 66 = .ok (.iconst 3, 1) := by decide +kernel
theorem dL_fitsBus_67 : decode cL_fitsBus 67 = .ok (.iload 8, 2) := by decide +kernel
theorem dL_fitsBus_69 : decode cL_fitsBus 69 = .ok (.imul, 1) := by decide +kernel
theorem dL_fitsBus_70 : decode cL_fitsBus 70 = .ok (.iconst 1, 1) := by decide +kernel
theorem dL_fitsBus_71 : decode cL_fitsBus 71 = .ok (.iadd, 1) := by decide +kernel
theorem dL_fitsBus_72 : decode cL_fitsBus 72 = .ok (.iaload, 1) := by decide +kernel
theorem dL_fitsBus_73 : decode cL_fitsBus 73 = .ok (.goto 11, 3) := by decide +kernel
theorem dL_fitsBus_76 : decode cL_fitsBus 76 = .ok (.aload_n 1, 1) := by decide +kernel
theorem dL_fitsBus_77 : decode cL_fitsBus 77 = .ok (.iconst 3, 1) := by decide +kernel
theorem dL_fitsBus_78 : decode cL_fitsBus 78 = .ok (.iload 6, 2) := by decide +kernel
theorem dL_fitsBus_80 : decode cL_fitsBus 80 = .ok (.imul, 1) := by decide +kernel
theorem dL_fitsBus_81 : decode cL_fitsBus 81 = .ok (.iconst 1, 1) := by decide +kernel
theorem dL_fitsBus_82 : decode cL_fitsBus 82 = .ok (.iadd, 1) := by decide +kernel
theorem dL_fitsBus_83 : decode cL_fitsBus 83 = .ok (.iaload, 1) := by decide +kernel
theorem dL_fitsBus_84 : decode cL_fitsBus 84 = .ok (.istore 10, 2) := by decide +kernel
theorem dL_fitsBus_86 : decode cL_fitsBus 86 = .ok (.iload 7, 2) := by decide +kernel
theorem dL_fitsBus_88 : decode cL_fitsBus 88 = .ok (.iload 8, 2) := by decide +kernel
theorem dL_fitsBus_90 : decode cL_fitsBus 90 = .ok (.iload 6, 2) := by decide +kernel
theorem dL_fitsBus_92 : decode cL_fitsBus 92 = .ok (.if_icmp .eq 41, 3) := by decide +kernel
theorem dL_fitsBus_95 : decode cL_fitsBus 95 = .ok (.aload_n 3, 1) := by decide +kernel
theorem dL_fitsBus_96 : decode cL_fitsBus 96 = .ok (.iload 8, 2) := by decide +kernel
theorem dL_fitsBus_98 : decode cL_fitsBus 98 = .ok (.iaload, 1) := by decide +kernel
theorem dL_fitsBus_99 : decode cL_fitsBus 99 = .ok (.iload 5, 2) := by decide +kernel
theorem dL_fitsBus_101 : decode cL_fitsBus 101 = .ok (.iconst 1, 1) := by decide +kernel
theorem dL_fitsBus_102 : decode cL_fitsBus 102 = .ok (.iadd, 1) := by decide +kernel
theorem dL_fitsBus_103 : decode cL_fitsBus 103 = .ok (.if_icmp .ne 30, 3) := by decide +kernel
theorem dL_fitsBus_106 : decode cL_fitsBus 106 = .ok (.aload_n 2, 1) := by decide +kernel
theorem dL_fitsBus_107 : decode cL_fitsBus 107 = .ok (.iload 8, 2) := by decide +kernel
theorem dL_fitsBus_109 : decode cL_fitsBus 109 = .ok (.iaload, 1) := by decide +kernel
theorem dL_fitsBus_110 : decode cL_fitsBus 110 = .ok (.iconst 1, 1) := by decide +kernel
theorem dL_fitsBus_111 : decode cL_fitsBus 111 = .ok (.if_icmp .eq 11, 3) := by decide +kernel
theorem dL_fitsBus_114 : decode cL_fitsBus 114 = .ok (.aload_n 2, 1) := by decide +kernel
theorem dL_fitsBus_115 : decode cL_fitsBus 115 = .ok (.iload 8, 2) := by decide +kernel
theorem dL_fitsBus_117 : decode cL_fitsBus 117 = .ok (.iaload, 1) := by decide +kernel
theorem dL_fitsBus_118 : decode cL_fitsBus 118 = .ok (.iconst 2, 1) := by decide +kernel
theorem dL_fitsBus_119 : decode cL_fitsBus 119 = .ok (.if_icmp .ne 14, 3) := by decide +kernel
theorem dL_fitsBus_122 : decode cL_fitsBus 122 = .ok (.iload 9, 2) := by decide +kernel
theorem dL_fitsBus_124 : decode cL_fitsBus 124 = .ok (.iload 10, 2) := by decide +kernel
theorem dL_fitsBus_126 : decode cL_fitsBus 126 = .ok (.if_icmp .ge 7, 3) := by decide +kernel
theorem dL_fitsBus_129 : decode cL_fitsBus 129 = .ok (.iconst 1, 1) := by decide +kernel
theorem dL_fitsBus_130 : decode cL_fitsBus 130 = .ok (.goto 4, 3) := by decide +kernel
theorem dL_fitsBus_133 : decode cL_fitsBus 133 = .ok (.iconst 0, 1) := by decide +kernel
theorem dL_fitsBus_134 : decode cL_fitsBus 134 = .ok (.iadd, 1) := by decide +kernel
theorem dL_fitsBus_135 : decode cL_fitsBus 135 = .ok (.istore 7, 2) := by decide +kernel
theorem dL_fitsBus_137 : decode cL_fitsBus 137 = .ok (.iinc 8 1, 3) := by decide +kernel
theorem dL_fitsBus_140 : decode cL_fitsBus 140 = .ok (.goto (-134), 3) := by decide +kernel
theorem dL_fitsBus_143 : decode cL_fitsBus 143 = .ok (.iload 7, 2) := by decide +kernel
theorem dL_fitsBus_145 : decode cL_fitsBus 145 = .ok (.ifCond .ne 47, 3) := by decide +kernel
theorem dL_fitsBus_148 : decode cL_fitsBus 148 = .ok (.aload 4, 2) := by decide +kernel
theorem dL_fitsBus_150 : decode cL_fitsBus 150 = .ok (.iconst 2, 1) := by decide +kernel
theorem dL_fitsBus_151 : decode cL_fitsBus 151 = .ok (.iload 5, 2) := by decide +kernel
theorem dL_fitsBus_153 : decode cL_fitsBus 153 = .ok (.imul, 1) := by decide +kernel
theorem dL_fitsBus_154 : decode cL_fitsBus 154 = .ok (.iconst 1, 1) := by decide +kernel
theorem dL_fitsBus_155 : decode cL_fitsBus 155 = .ok (.iadd, 1) := by decide +kernel
theorem dL_fitsBus_156 : decode cL_fitsBus 156 = .ok (.iaload, 1) := by decide +kernel
theorem dL_fitsBus_157 : decode cL_fitsBus 157 = .ok (.ifCond .ne 35, 3) := by decide +kernel
theorem dL_fitsBus_160 : decode cL_fitsBus 160 = .ok (.aload 4, 2) := by decide +kernel
theorem dL_fitsBus_162 : decode cL_fitsBus 162 = .ok (.iconst 2, 1) := by decide +kernel
theorem dL_fitsBus_163 : decode cL_fitsBus 163 = .ok (.iload 5, 2) := by decide +kernel
theorem dL_fitsBus_165 : decode cL_fitsBus 165 = .ok (.imul, 1) := by decide +kernel
theorem dL_fitsBus_166 : decode cL_fitsBus 166 = .ok (.iaload, 1) := by decide +kernel
theorem dL_fitsBus_167 : decode cL_fitsBus 167 = .ok (.aload_n 0, 1) := by decide +kernel
theorem dL_fitsBus_168 : decode cL_fitsBus 168 = .ok (.aload_n 1, 1) := by decide +kernel
theorem dL_fitsBus_169 : decode cL_fitsBus 169 = .ok (.aload_n 2, 1) := by decide +kernel
theorem dL_fitsBus_170 : decode cL_fitsBus 170 = .ok (.aload_n 3, 1) := by decide +kernel
theorem dL_fitsBus_171 : decode cL_fitsBus 171 = .ok (.iload 5, 2) := by decide +kernel
theorem dL_fitsBus_173 : decode cL_fitsBus 173 = .ok (.invokestatic 7, 3) := by decide +kernel
theorem dL_fitsBus_176 : decode cL_fitsBus 176 = .ok (.aload_n 1, 1) := by decide +kernel
theorem dL_fitsBus_177 : decode cL_fitsBus 177 = .ok (.iconst 3, 1) := by decide +kernel
theorem dL_fitsBus_178 : decode cL_fitsBus 178 = .ok (.iload 6, 2) := by decide +kernel
theorem dL_fitsBus_180 : decode cL_fitsBus 180 = .ok (.imul, 1) := by decide +kernel
theorem dL_fitsBus_181 : decode cL_fitsBus 181 = .ok (.iconst 2, 1) := by decide +kernel
theorem dL_fitsBus_182 : decode cL_fitsBus 182 = .ok (.iadd, 1) := by decide +kernel
theorem dL_fitsBus_183 : decode cL_fitsBus 183 = .ok (.iaload, 1) := by decide +kernel
theorem dL_fitsBus_184 : decode cL_fitsBus 184 = .ok (.iadd, 1) := by decide +kernel
theorem dL_fitsBus_185 : decode cL_fitsBus 185 = .ok (.if_icmp .lt 7, 3) := by decide +kernel
theorem dL_fitsBus_188 : decode cL_fitsBus 188 = .ok (.iconst 1, 1) := by decide +kernel
theorem dL_fitsBus_189 : decode cL_fitsBus 189 = .ok (.goto 4, 3) := by decide +kernel
theorem dL_fitsBus_192 : decode cL_fitsBus 192 = .ok (.iconst 0, 1) := by decide +kernel
theorem dL_fitsBus_193 : decode cL_fitsBus 193 = .ok (.ireturn, 1) := by decide +kernel
theorem dL_minutes_0 : decode cL_minutes 0 = .ok (.iconst 0, 1) := by decide +kernel
theorem dL_minutes_1 : decode cL_minutes 1 = .ok (.istore 7, 2) := by decide +kernel
theorem dL_minutes_3 : decode cL_minutes 3 = .ok (.iconst 0, 1) := by decide +kernel
theorem dL_minutes_4 : decode cL_minutes 4 = .ok (.istore 8, 2) := by decide +kernel
theorem dL_minutes_6 : decode cL_minutes 6 = .ok (.iload 8, 2) := by decide +kernel
theorem dL_minutes_8 : decode cL_minutes 8 = .ok (.aload_n 0, 1) := by decide +kernel
theorem dL_minutes_9 : decode cL_minutes 9 = .ok (.iconst 1, 1) := by decide +kernel
theorem dL_minutes_10 : decode cL_minutes 10 = .ok (.iaload, 1) := by decide +kernel
theorem dL_minutes_11 : decode cL_minutes 11 = .ok (.if_icmp .ge 93, 3) := by decide +kernel
theorem dL_minutes_14 : decode cL_minutes 14 = .ok (.iload 8, 2) := by decide +kernel
theorem dL_minutes_16 : decode cL_minutes 16 = .ok (.iload 6, 2) := by decide +kernel
theorem dL_minutes_18 : decode cL_minutes 18 = .ok (.if_icmp .eq 48, 3) := by decide +kernel
theorem dL_minutes_21 : decode cL_minutes 21 = .ok (.aload_n 3, 1) := by decide +kernel
theorem dL_minutes_22 : decode cL_minutes 22 = .ok (.iload 8, 2) := by decide +kernel
theorem dL_minutes_24 : decode cL_minutes 24 = .ok (.iaload, 1) := by decide +kernel
theorem dL_minutes_25 : decode cL_minutes 25 = .ok (.iload 4, 2) := by decide +kernel
theorem dL_minutes_27 : decode cL_minutes 27 = .ok (.iconst 1, 1) := by decide +kernel
theorem dL_minutes_28 : decode cL_minutes 28 = .ok (.iadd, 1) := by decide +kernel
theorem dL_minutes_29 : decode cL_minutes 29 = .ok (.if_icmp .ne 37, 3) := by decide +kernel
theorem dL_minutes_32 : decode cL_minutes 32 = .ok (.aload_n 2, 1) := by decide +kernel
theorem dL_minutes_33 : decode cL_minutes 33 = .ok (.iload 8, 2) := by decide +kernel
theorem dL_minutes_35 : decode cL_minutes 35 = .ok (.iaload, 1) := by decide +kernel
theorem dL_minutes_36 : decode cL_minutes 36 = .ok (.ifCond .le 30, 3) := by decide +kernel
theorem dL_minutes_39 : decode cL_minutes 39 = .ok (.aload_n 2, 1) := by decide +kernel
theorem dL_minutes_40 : decode cL_minutes 40 = .ok (.iload 8, 2) := by decide +kernel
theorem dL_minutes_42 : decode cL_minutes 42 = .ok (.iaload, 1) := by decide +kernel
theorem dL_minutes_43 : decode cL_minutes 43 = .ok (.iconst 4, 1) := by decide +kernel
theorem dL_minutes_44 : decode cL_minutes 44 = .ok (.if_icmp .ge 22, 3) := by decide +kernel
theorem dL_minutes_47 : decode cL_minutes 47 = .ok (.aload_n 1, 1) := by decide +kernel
theorem dL_minutes_48 : decode cL_minutes 48 = .ok (.iconst 3, 1) := by decide +kernel
theorem dL_minutes_49 : decode cL_minutes 49 = .ok (.iload 8, 2) := by decide +kernel
theorem dL_minutes_51 : decode cL_minutes 51 = .ok (.imul, 1) := by decide +kernel
theorem dL_minutes_52 : decode cL_minutes 52 = .ok (.iaload, 1) := by decide +kernel
theorem dL_minutes_53 : decode cL_minutes 53 = .ok (.sipush 1440, 3) := by decide +kernel
theorem dL_minutes_56 : decode cL_minutes 56 = .ok (.idiv, 1) := by decide +kernel
theorem dL_minutes_57 : decode cL_minutes 57 = .ok (.iload 5, 2) := by decide +kernel
theorem dL_minutes_59 : decode cL_minutes 59 = .ok (.if_icmp .ne 7, 3) := by decide +kernel
theorem dL_minutes_62 : decode cL_minutes 62 = .ok (.iconst 1, 1) := by decide +kernel
theorem dL_minutes_63 : decode cL_minutes 63 = .ok (.goto 4, 3) := by decide +kernel
theorem dL_minutes_66 : decode cL_minutes 66 = .ok (.iconst 0, 1) := by decide +kernel
theorem dL_minutes_67 : decode cL_minutes 67 = .ok (.istore 9, 2) := by decide +kernel
theorem dL_minutes_69 : decode cL_minutes 69 = .ok (.iload 7, 2) := by decide +kernel
theorem dL_minutes_71 : decode cL_minutes 71 = .ok (.iload 9, 2) := by decide +kernel
theorem dL_minutes_73 : decode cL_minutes 73 = .ok (.ifCond .eq 21, 3) := by decide +kernel
theorem dL_minutes_76 : decode cL_minutes 76 = .ok (.aload_n 1, 1) := by decide +kernel
theorem dL_minutes_77 : decode cL_minutes 77 = .ok (.iconst 3, 1) := by decide +kernel
theorem dL_minutes_78 : decode cL_minutes 78 = .ok (.iload 8, 2) := by decide +kernel
theorem dL_minutes_80 : decode cL_minutes 80 = .ok (.imul, 1) := by decide +kernel
theorem dL_minutes_81 : decode cL_minutes 81 = .ok (.iconst 1, 1) := by decide +kernel
theorem dL_minutes_82 : decode cL_minutes 82 = .ok (.iadd, 1) := by decide +kernel
theorem dL_minutes_83 : decode cL_minutes 83 = .ok (.iaload, 1) := by decide +kernel
theorem dL_minutes_84 : decode cL_minutes 84 = .ok (.aload_n 1, 1) := by decide +kernel
theorem dL_minutes_85 : decode cL_minutes 85 = .ok (.iconst 3, 1) := by decide +kernel
theorem dL_minutes_86 : decode cL_minutes 86 = .ok (.iload 8, 2) := by decide +kernel
theorem dL_minutes_88 : decode cL_minutes 88 = .ok (.imul, 1) := by decide +kernel
theorem dL_minutes_89 : decode cL_minutes 89 = .ok (.iaload, 1) := by decide +kernel
theorem dL_minutes_90 : decode cL_minutes 90 = .ok (.isub, 1) := by decide +kernel
theorem dL_minutes_91 : decode cL_minutes 91 = .ok (.goto 4, 3) := by decide +kernel
theorem dL_minutes_94 : decode cL_minutes 94 = .ok (.iconst 0, 1) := by decide +kernel
theorem dL_minutes_95 : decode cL_minutes 95 = .ok (.iadd, 1) := by decide +kernel
theorem dL_minutes_96 : decode cL_minutes 96 = .ok (.istore 7, 2) := by decide +kernel
theorem dL_minutes_98 : decode cL_minutes 98 = .ok (.iinc 8 1, 3) := by decide +kernel
theorem dL_minutes_101 : decode cL_minutes 101 = .ok (.goto (-95), 3) := by decide +kernel
theorem dL_minutes_104 : decode cL_minutes 104 = .ok (.iload 7, 2) := by decide +kernel
theorem dL_minutes_106 : decode cL_minutes 106 = .ok (.ireturn, 1) := by decide +kernel
set_option maxRecDepth 20000 in
theorem ggL_fitsDriver_L_minutes : GoodIn wsL_fitsDriver wsL_minutes := goodIn_r _ [4] (by decide +kernel) (by decide +kernel)
set_option maxRecDepth 20000 in
theorem gL_fitsDriver_L_minutes : GoodIn wsL_fitsDriver (va_wsS RL 13 yL_minutes wsL_minutes) := goodIn_app (goodIn_of _ (by decide +kernel)) ggL_fitsDriver_L_minutes
theorem dL_fitsDriver_0 : decode cL_fitsDriver 0 = .ok (.iconst 0, 1) := by decide +kernel
theorem dL_fitsDriver_1 : decode cL_fitsDriver 1 = .ok (.istore 7, 2) := by decide +kernel
theorem dL_fitsDriver_3 : decode cL_fitsDriver 3 = .ok (.iconst 0, 1) := by decide +kernel
theorem dL_fitsDriver_4 : decode cL_fitsDriver 4 = .ok (.istore 8, 2) := by decide +kernel
theorem dL_fitsDriver_6 : decode cL_fitsDriver 6 = .ok (.iload 8, 2) := by decide +kernel
theorem dL_fitsDriver_8 : decode cL_fitsDriver 8 = .ok (.aload_n 0, 1) := by decide +kernel
theorem dL_fitsDriver_9 : decode cL_fitsDriver 9 = .ok (.iconst 1, 1) := by decide +kernel
theorem dL_fitsDriver_10 : decode cL_fitsDriver 10 = .ok (.iaload, 1) := by decide +kernel
theorem dL_fitsDriver_11 : decode cL_fitsDriver 11 = .ok (.if_icmp .ge 169, 3) := by decide +kernel
theorem dL_fitsDriver_14 : decode cL_fitsDriver 14 = .ok (.iload 8, 2) := by decide +kernel
theorem dL_fitsDriver_16 : decode cL_fitsDriver 16 = .ok (.iload 6, 2) := by decide +kernel
theorem dL_fitsDriver_18 : decode cL_fitsDriver 18 = .ok (.if_icmp .eq 56, 3) := by decide +kernel
theorem dL_fitsDriver_21 : decode cL_fitsDriver 21 = .ok (.aload_n 3, 1) := by decide +kernel
theorem dL_fitsDriver_22 : decode cL_fitsDriver 22 = .ok (.iload 8, 2) := by decide +kernel
theorem dL_fitsDriver_24 : decode cL_fitsDriver 24 = .ok (.iaload, 1) := by decide +kernel
theorem dL_fitsDriver_25 : decode cL_fitsDriver 25 = .ok (.iload 5, 2) := by decide +kernel
theorem dL_fitsDriver_27 : decode cL_fitsDriver 27 = .ok (.iconst 1, 1) := by decide +kernel
theorem dL_fitsDriver_28 : decode cL_fitsDriver 28 = .ok (.iadd, 1) := by decide +kernel
theorem dL_fitsDriver_29 : decode cL_fitsDriver 29 = .ok (.if_icmp .ne 45, 3) := by decide +kernel
theorem dL_fitsDriver_32 : decode cL_fitsDriver 32 = .ok (.aload_n 2, 1) := by decide +kernel
theorem dL_fitsDriver_33 : decode cL_fitsDriver 33 = .ok (.iload 8, 2) := by decide +kernel
theorem dL_fitsDriver_35 : decode cL_fitsDriver 35 = .ok (.iaload, 1) := by decide +kernel
theorem dL_fitsDriver_36 : decode cL_fitsDriver 36 = .ok (.ifCond .le 38, 3) := by decide +kernel
theorem dL_fitsDriver_39 : decode cL_fitsDriver 39 = .ok (.aload_n 2, 1) := by decide +kernel
theorem dL_fitsDriver_40 : decode cL_fitsDriver 40 = .ok (.iload 8, 2) := by decide +kernel
theorem dL_fitsDriver_42 : decode cL_fitsDriver 42 = .ok (.iaload, 1) := by decide +kernel
theorem dL_fitsDriver_43 : decode cL_fitsDriver 43 = .ok (.iconst 4, 1) := by decide +kernel
theorem dL_fitsDriver_44 : decode cL_fitsDriver 44 = .ok (.if_icmp .ge 30, 3) := by decide +kernel
theorem dL_fitsDriver_47 : decode cL_fitsDriver 47 = .ok (.aload_n 1, 1) := by decide +kernel
theorem dL_fitsDriver_48 : decode cL_fitsDriver 48 = .ok (.iconst 3, 1) := by decide +kernel
theorem dL_fitsDriver_49 : decode cL_fitsDriver 49 = .ok (.iload 8, 2) := by decide +kernel
theorem dL_fitsDriver_51 : decode cL_fitsDriver 51 = .ok (.imul, 1) := by decide +kernel
theorem dL_fitsDriver_52 : decode cL_fitsDriver 52 = .ok (.iaload, 1) := by decide +kernel
theorem dL_fitsDriver_53 : decode cL_fitsDriver 53 = .ok (.sipush 1440, 3) := by decide +kernel
theorem dL_fitsDriver_56 : decode cL_fitsDriver 56 = .ok (.idiv, 1) := by decide +kernel
theorem dL_fitsDriver_57 : decode cL_fitsDriver 57 = .ok (.aload_n 1, 1) := by decide +kernel
theorem dL_fitsDriver_58 : decode cL_fitsDriver 58 = .ok (.iconst 3, 1) := by decide +kernel
theorem dL_fitsDriver_59 : decode cL_fitsDriver 59 = .ok (.iload 6, 2) := by decide +kernel
theorem dL_fitsDriver_61 : decode cL_fitsDriver 61 = .ok (.imul, 1) := by decide +kernel
theorem dL_fitsDriver_62 : decode cL_fitsDriver 62 = .ok (.iaload, 1) := by decide +kernel
theorem dL_fitsDriver_63 : decode cL_fitsDriver 63 = .ok (.sipush 1440, 3) := by decide +kernel
theorem dL_fitsDriver_66 : decode cL_fitsDriver 66 = .ok (.idiv, 1) := by decide +kernel
theorem dL_fitsDriver_67 : decode cL_fitsDriver 67 = .ok (.if_icmp .ne 7, 3) := by decide +kernel
theorem dL_fitsDriver_70 : decode cL_fitsDriver 70 = .ok (.iconst 1, 1) := by decide +kernel
theorem dL_fitsDriver_71 : decode cL_fitsDriver 71 = .ok (.goto 4, 3) := by decide +kernel
theorem dL_fitsDriver_74 : decode cL_fitsDriver 74 = .ok (.iconst 0, 1) := by decide +kernel
theorem dL_fitsDriver_75 : decode cL_fitsDriver 75 = .ok (.istore 9, 2) := by decide +kernel
theorem dL_fitsDriver_77 : decode cL_fitsDriver 77 = .ok (.aload_n 1, 1) := by decide +kernel
theorem dL_fitsDriver_78 : decode cL_fitsDriver 78 = .ok (.iconst 3, 1) := by decide +kernel
theorem dL_fitsDriver_79 : decode cL_fitsDriver 79 = .ok (.iload 8, 2) := by decide +kernel
theorem dL_fitsDriver_81 : decode cL_fitsDriver 81 = .ok (.imul, 1) := by decide +kernel
theorem dL_fitsDriver_82 : decode cL_fitsDriver 82 = .ok (.iaload, 1) := by decide +kernel
theorem dL_fitsDriver_83 : decode cL_fitsDriver 83 = .ok (.aload_n 1, 1) := by decide +kernel
theorem dL_fitsDriver_84 : decode cL_fitsDriver 84 = .ok (.iconst 3, 1) := by decide +kernel
theorem dL_fitsDriver_85 : decode cL_fitsDriver 85 = .ok (.iload 6, 2) := by decide +kernel
theorem dL_fitsDriver_87 : decode cL_fitsDriver 87 = .ok (.imul, 1) := by decide +kernel
theorem dL_fitsDriver_88 : decode cL_fitsDriver 88 = .ok (.iaload, 1) := by decide +kernel
theorem dL_fitsDriver_89 : decode cL_fitsDriver 89 = .ok (.if_icmp .le 12, 3) := by decide +kernel
theorem dL_fitsDriver_92 : decode cL_fitsDriver 92 = .ok (.aload_n 1, 1) := by decide +kernel
theorem dL_fitsDriver_93 : decode cL_fitsDriver 93 = .ok (.iconst 3, 1) := by decide +kernel
theorem dL_fitsDriver_94 : decode cL_fitsDriver 94 = .ok (.iload 8, 2) := by decide +kernel
theorem dL_fitsDriver_96 : decode cL_fitsDriver 96 = .ok (.imul, 1) := by decide +kernel
theorem dL_fitsDriver_97 : decode cL_fitsDriver 97 = .ok (.iaload, 1) := by decide +kernel
theorem dL_fitsDriver_98 : decode cL_fitsDriver 98 = .ok (.goto 9, 3) := by decide +kernel
theorem dL_fitsDriver_101 : decode cL_fitsDriver 101 = .ok (.aload_n 1, 1) := by decide +kernel
theorem dL_fitsDriver_102 : decode cL_fitsDriver 102 = .ok (.iconst 3, 1) := by decide +kernel
theorem dL_fitsDriver_103 : decode cL_fitsDriver 103 = .ok (.iload 6, 2) := by decide +kernel
theorem dL_fitsDriver_105 : decode cL_fitsDriver 105 = .ok (.imul, 1) := by decide +kernel
theorem dL_fitsDriver_106 : decode cL_fitsDriver 106 = .ok (.iaload, 1) := by decide +kernel
theorem dL_fitsDriver_107 : decode cL_fitsDriver 107 = .ok (.istore 10, 2) := by decide +kernel
theorem dL_fitsDriver_109 : decode cL_fitsDriver 109 = .ok (.aload_n 1, 1) := by decide +kernel
theorem dL_fitsDriver_110 : decode cL_fitsDriver 110 = .ok (.iconst 3, 1) := by decide +kernel
theorem dL_fitsDriver_111 : decode cL_fitsDriver 111 = .ok (.iload 8, 2) := by decide +kernel
theorem dL_fitsDriver_113 : decode cL_fitsDriver 113 = .ok (.imul, 1) := by decide +kernel
theorem dL_fitsDriver_114 : decode cL_fitsDriver 114 = .ok (.iconst 1, 1) := by decide +kernel
theorem dL_fitsDriver_115 : decode cL_fitsDriver 115 = .ok (.iadd, 1) := by decide +kernel
theorem dL_fitsDriver_116 : decode cL_fitsDriver 116 = .ok (.iaload, 1) := by decide +kernel
theorem dL_fitsDriver_117 : decode cL_fitsDriver 117 = .ok (.aload_n 1, 1) := by decide +kernel
theorem dL_fitsDriver_118 : decode cL_fitsDriver 118 = .ok (.iconst 3, 1) := by decide +kernel
theorem dL_fitsDriver_119 : decode cL_fitsDriver 119 = .ok (.iload 6, 2) := by decide +kernel
theorem dL_fitsDriver_121 : decode cL_fitsDriver 121 = .ok (.imul, 1) := by decide +kernel
theorem dL_fitsDriver_122 : decode cL_fitsDriver 122 = .ok (.iconst 1, 1) := by decide +kernel
theorem dL_fitsDriver_123 : decode cL_fitsDriver 123 = .ok (.iadd, 1) := by decide +kernel
theorem dL_fitsDriver_124 : decode cL_fitsDriver 124 = .ok (.iaload, 1) := by decide +kernel
theorem dL_fitsDriver_125 : decode cL_fitsDriver 125 = .ok (.if_icmp .ge 14, 3) := by decide +kernel
theorem dL_fitsDriver_128 : decode cL_fitsDriver 128 = .ok (.aload_n 1, 1) := by decide +kernel
theorem dL_fitsDriver_129 : decode cL_fitsDriver 129 = .ok (.iconst 3, 1) := by decide +kernel
theorem dL_fitsDriver_130 : decode cL_fitsDriver 130 = .ok (.iload 8, 2) := by decide +kernel
theorem dL_fitsDriver_132 : decode cL_fitsDriver 132 = .ok (.imul, 1) := by decide +kernel
theorem dL_fitsDriver_133 : decode cL_fitsDriver 133 = .ok (.iconst 1, 1) := by decide +kernel
theorem dL_fitsDriver_134 : decode cL_fitsDriver 134 = .ok (.iadd, 1) := by decide +kernel
theorem dL_fitsDriver_135 : decode cL_fitsDriver 135 = .ok (.iaload, 1) := by decide +kernel
theorem dL_fitsDriver_136 : decode cL_fitsDriver 136 = .ok (.goto 11, 3) := by decide +kernel
theorem dL_fitsDriver_139 : decode cL_fitsDriver 139 = .ok (.aload_n 1, 1) := by decide +kernel
theorem dL_fitsDriver_140 : decode cL_fitsDriver 140 = .ok (.iconst 3, 1) := by decide +kernel
theorem dL_fitsDriver_141 : decode cL_fitsDriver 141 = .ok (.iload 6, 2) := by decide +kernel
theorem dL_fitsDriver_143 : decode cL_fitsDriver 143 = .ok (.imul, 1) := by decide +kernel
theorem dL_fitsDriver_144 : decode cL_fitsDriver 144 = .ok (.iconst 1, 1) := by decide +kernel
theorem dL_fitsDriver_145 : decode cL_fitsDriver 145 = .ok (.iadd, 1) := by decide +kernel
theorem dL_fitsDriver_146 : decode cL_fitsDriver 146 = .ok (.iaload, 1) := by decide +kernel
theorem dL_fitsDriver_147 : decode cL_fitsDriver 147 = .ok (.istore 11, 2) := by decide +kernel
theorem dL_fitsDriver_149 : decode cL_fitsDriver 149 = .ok (.iload 7, 2) := by decide +kernel
theorem dL_fitsDriver_151 : decode cL_fitsDriver 151 = .ok (.iload 9, 2) := by decide +kernel
theorem dL_fitsDriver_153 : decode cL_fitsDriver 153 = .ok (.ifCond .eq 17, 3) := by decide +kernel
theorem dL_fitsDriver_156 : decode cL_fitsDriver 156 = .ok (.iload 10, 2) := by decide +kernel
theorem dL_fitsDriver_158 : decode cL_fitsDriver 158 = .ok (.iload 11, 2) := by decide +kernel
theorem dL_fitsDriver_160 : decode cL_fitsDriver 160 = .ok (.isub, 1) := by decide +kernel
theorem dL_fitsDriver_161 : decode cL_fitsDriver 161 = .ok (.bipush 30, 2) := by decide +kernel
theorem dL_fitsDriver_163 : decode cL_fitsDriver 163 = .ok (.if_icmp .ge 7, 3) := by decide +kernel
theorem dL_fitsDriver_166 : decode cL_fitsDriver 166 = .ok (.iconst 1, 1) := by decide +kernel
theorem dL_fitsDriver_167 : decode cL_fitsDriver 167 = .ok (.goto 4, 3) := by decide +kernel
theorem dL_fitsDriver_170 : decode cL_fitsDriver 170 = .ok (.iconst 0, 1) := by decide +kernel
theorem dL_fitsDriver_171 : decode cL_fitsDriver 171 = .ok (.iadd, 1) := by decide +kernel
theorem dL_fitsDriver_172 : decode cL_fitsDriver 172 = .ok (.istore 7, 2) := by decide +kernel
theorem dL_fitsDriver_174 : decode cL_fitsDriver 174 = .ok (.iinc 8 1, 3) := by decide +kernel
theorem dL_fitsDriver_177 : decode cL_fitsDriver 177 = .ok (.goto (-171), 3) := by decide +kernel
theorem dL_fitsDriver_180 : decode cL_fitsDriver 180 = .ok (.iload 7, 2) := by decide +kernel
theorem dL_fitsDriver_182 : decode cL_fitsDriver 182 = .ok (.ifCond .ne 58, 3) := by decide +kernel
theorem dL_fitsDriver_185 : decode cL_fitsDriver 185 = .ok (.aload 4, 2) := by decide +kernel
theorem dL_fitsDriver_187 : decode cL_fitsDriver 187 = .ok (.iload 5, 2) := by decide +kernel
theorem dL_fitsDriver_189 : decode cL_fitsDriver 189 = .ok (.iaload, 1) := by decide +kernel
theorem dL_fitsDriver_190 : decode cL_fitsDriver 190 = .ok (.ifCond .ne 50, 3) := by decide +kernel
theorem dL_fitsDriver_193 : decode cL_fitsDriver 193 = .ok (.aload_n 0, 1) := by decide +kernel
theorem dL_fitsDriver_194 : decode cL_fitsDriver 194 = .ok (.aload_n 1, 1) := by decide +kernel
theorem dL_fitsDriver_195 : decode cL_fitsDriver 195 = .ok (.aload_n 2, 1) := by decide +kernel
theorem dL_fitsDriver_196 : decode cL_fitsDriver 196 = .ok (.aload_n 3, 1) := by decide +kernel
theorem dL_fitsDriver_197 : decode cL_fitsDriver 197 = .ok (.iload 5, 2) := by decide +kernel
theorem dL_fitsDriver_199 : decode cL_fitsDriver 199 = .ok (.aload_n 1, 1) := by decide +kernel
theorem dL_fitsDriver_200 : decode cL_fitsDriver 200 = .ok (.iconst 3, 1) := by decide +kernel
theorem dL_fitsDriver_201 : decode cL_fitsDriver 201 = .ok (.iload 6, 2) := by decide +kernel
theorem dL_fitsDriver_203 : decode cL_fitsDriver 203 = .ok (.imul, 1) := by decide +kernel
theorem dL_fitsDriver_204 : decode cL_fitsDriver 204 = .ok (.iaload, 1) := by decide +kernel
theorem dL_fitsDriver_205 : decode cL_fitsDriver 205 = .ok (.sipush 1440, 3) := by decide +kernel
theorem dL_fitsDriver_208 : decode cL_fitsDriver 208 = .ok (.idiv, 1) := by decide +kernel
theorem dL_fitsDriver_209 : decode cL_fitsDriver 209 = .ok (.iload 6, 2) := by decide +kernel
theorem dL_fitsDriver_211 : decode cL_fitsDriver 211 = .ok (.invokestatic 13, 3) := by decide +kernel
theorem dL_fitsDriver_214 : decode cL_fitsDriver 214 = .ok (.aload_n 1, 1) := by decide +kernel
theorem dL_fitsDriver_215 : decode cL_fitsDriver 215 = .ok (.iconst 3, 1) := by decide +kernel
theorem dL_fitsDriver_216 : decode cL_fitsDriver 216 = .ok (.iload 6, 2) := by decide +kernel
theorem dL_fitsDriver_218 : decode cL_fitsDriver 218 = .ok (.imul, 1) := by decide +kernel
theorem dL_fitsDriver_219 : decode cL_fitsDriver 219 = .ok (.iconst 1, 1) := by decide +kernel
theorem dL_fitsDriver_220 : decode cL_fitsDriver 220 = .ok (.iadd, 1) := by decide +kernel
theorem dL_fitsDriver_221 : decode cL_fitsDriver 221 = .ok (.iaload, 1) := by decide +kernel
theorem dL_fitsDriver_222 : decode cL_fitsDriver 222 = .ok (.iadd, 1) := by decide +kernel
theorem dL_fitsDriver_223 : decode cL_fitsDriver 223 = .ok (.aload_n 1, 1) := by decide +kernel
theorem dL_fitsDriver_224 : decode cL_fitsDriver 224 = .ok (.iconst 3, 1) := by decide +kernel
theorem dL_fitsDriver_225 : decode cL_fitsDriver 225 = .ok (.iload 6, 2) := by decide +kernel
theorem dL_fitsDriver_227 : decode cL_fitsDriver 227 = .ok (.imul, 1) := by decide +kernel
theorem dL_fitsDriver_228 : decode cL_fitsDriver 228 = .ok (.iaload, 1) := by decide +kernel
theorem dL_fitsDriver_229 : decode cL_fitsDriver 229 = .ok (.isub, 1) := by decide +kernel
theorem dL_fitsDriver_230 : decode cL_fitsDriver 230 = .ok (.sipush 480, 3) := by decide +kernel
theorem dL_fitsDriver_233 : decode cL_fitsDriver 233 = .ok (.if_icmp .gt 7, 3) := by decide +kernel
theorem dL_fitsDriver_236 : decode cL_fitsDriver 236 = .ok (.iconst 1, 1) := by decide +kernel
theorem dL_fitsDriver_237 : decode cL_fitsDriver 237 = .ok (.goto 4, 3) := by decide +kernel
theorem dL_fitsDriver_240 : decode cL_fitsDriver 240 = .ok (.iconst 0, 1) := by decide +kernel
theorem dL_fitsDriver_241 : decode cL_fitsDriver 241 = .ok (.ireturn, 1) := by decide +kernel
theorem dL_leaves_0 : decode cL_leaves 0 = .ok (.aload_n 0, 1) := by decide +kernel
theorem dL_leaves_1 : decode cL_leaves 1 = .ok (.iconst 0, 1) := by decide +kernel
theorem dL_leaves_2 : decode cL_leaves 2 = .ok (.aload_n 0, 1) := by decide +kernel
theorem dL_leaves_3 : decode cL_leaves 3 = .ok (.iconst 0, 1) := by decide +kernel
theorem dL_leaves_4 : decode cL_leaves 4 = .ok (.iaload, 1) := by decide +kernel
theorem dL_leaves_5 : decode cL_leaves 5 = .ok (.iload_n 1, 1) := by decide +kernel
theorem dL_leaves_6 : decode cL_leaves 6 = .ok (.iconst 1, 1) := by decide +kernel
theorem dL_leaves_7 : decode cL_leaves 7 = .ok (.iadd, 1) := by decide +kernel
theorem dL_leaves_8 : decode cL_leaves 8 = .ok (.if_icmp .ne 7, 3) := by decide +kernel
theorem dL_leaves_11 : decode cL_leaves 11 = .ok (.iconst 0, 1) := by decide +kernel
theorem dL_leaves_12 : decode cL_leaves 12 = .ok (.goto 6, 3) := by decide +kernel
theorem dL_leaves_15 : decode cL_leaves 15 = .ok (.aload_n 0, 1) := by decide +kernel
theorem dL_leaves_16 : decode cL_leaves 16 = .ok (.iconst 0, 1) := by decide +kernel
theorem dL_leaves_17 : decode cL_leaves 17 = .ok (.iaload, 1) := by decide +kernel
theorem dL_leaves_18 : decode cL_leaves 18 = .ok (.iastore, 1) := by decide +kernel
theorem dL_leaves_19 : decode cL_leaves 19 = .ok (.aload_n 0, 1) := by decide +kernel
theorem dL_leaves_20 : decode cL_leaves 20 = .ok (.iconst 1, 1) := by decide +kernel
theorem dL_leaves_21 : decode cL_leaves 21 = .ok (.aload_n 0, 1) := by decide +kernel
theorem dL_leaves_22 : decode cL_leaves 22 = .ok (.iconst 1, 1) := by decide +kernel
theorem dL_leaves_23 : decode cL_leaves 23 = .ok (.iaload, 1) := by decide +kernel
theorem dL_leaves_24 : decode cL_leaves 24 = .ok (.iload_n 1, 1) := by decide +kernel
theorem dL_leaves_25 : decode cL_leaves 25 = .ok (.iconst 1, 1) := by decide +kernel
theorem dL_leaves_26 : decode cL_leaves 26 = .ok (.iadd, 1) := by decide +kernel
theorem dL_leaves_27 : decode cL_leaves 27 = .ok (.if_icmp .ne 7, 3) := by decide +kernel
theorem dL_leaves_30 : decode cL_leaves 30 = .ok (.iconst 0, 1) := by decide +kernel
theorem dL_leaves_31 : decode cL_leaves 31 = .ok (.goto 6, 3) := by decide +kernel
theorem dL_leaves_34 : decode cL_leaves 34 = .ok (.aload_n 0, 1) := by decide +kernel
theorem dL_leaves_35 : decode cL_leaves 35 = .ok (.iconst 1, 1) := by decide +kernel
theorem dL_leaves_36 : decode cL_leaves 36 = .ok (.iaload, 1) := by decide +kernel
theorem dL_leaves_37 : decode cL_leaves 37 = .ok (.iastore, 1) := by decide +kernel
theorem dL_leaves_38 : decode cL_leaves 38 = .ok (.return_, 1) := by decide +kernel
theorem dL_turns_0 : decode cL_turns 0 = .ok (.aload_n 0, 1) := by decide +kernel
theorem dL_turns_1 : decode cL_turns 1 = .ok (.iload_n 3, 1) := by decide +kernel
theorem dL_turns_2 : decode cL_turns 2 = .ok (.iload 4, 2) := by decide +kernel
theorem dL_turns_4 : decode cL_turns 4 = .ok (.iastore, 1) := by decide +kernel
theorem dL_turns_5 : decode cL_turns 5 = .ok (.aload_n 1, 1) := by decide +kernel
theorem dL_turns_6 : decode cL_turns 6 = .ok (.iload_n 3, 1) := by decide +kernel
theorem dL_turns_7 : decode cL_turns 7 = .ok (.iconst 0, 1) := by decide +kernel
theorem dL_turns_8 : decode cL_turns 8 = .ok (.iastore, 1) := by decide +kernel
theorem dL_turns_9 : decode cL_turns 9 = .ok (.aload_n 2, 1) := by decide +kernel
theorem dL_turns_10 : decode cL_turns 10 = .ok (.iload_n 3, 1) := by decide +kernel
theorem dL_turns_11 : decode cL_turns 11 = .ok (.iconst 0, 1) := by decide +kernel
theorem dL_turns_12 : decode cL_turns 12 = .ok (.iastore, 1) := by decide +kernel
theorem dL_turns_13 : decode cL_turns 13 = .ok (.return_, 1) := by decide +kernel
set_option maxRecDepth 20000 in
theorem ggL_breaks_L_leaves : GoodIn wsL_breaks wsL_leaves := goodIn_r _ [4] (by decide +kernel) (by decide +kernel)
set_option maxRecDepth 20000 in
theorem gL_breaks_L_leaves : GoodIn wsL_breaks (va_wsS RL 17 yL_leaves wsL_leaves) := goodIn_app (goodIn_of _ (by decide +kernel)) ggL_breaks_L_leaves
set_option maxRecDepth 20000 in
theorem ggL_breaks_L_turns : GoodIn wsL_breaks wsL_turns := goodIn_r _ [7] (by decide +kernel) (by decide +kernel)
set_option maxRecDepth 20000 in
theorem gL_breaks_L_turns : GoodIn wsL_breaks (va_wsS RL 21 yL_turns wsL_turns) := goodIn_app (goodIn_of _ (by decide +kernel)) ggL_breaks_L_turns
set_option maxRecDepth 20000 in
theorem ggL_breaks_L_fitsBus : GoodIn wsL_breaks wsL_fitsBus := goodIn_r _ [10, 11, 12, 3, 13] (by decide +kernel) (by decide +kernel)
set_option maxRecDepth 20000 in
theorem gL_breaks_L_fitsBus : GoodIn wsL_breaks (va_wsS RL 25 yL_fitsBus wsL_fitsBus) := goodIn_app (goodIn_of _ (by decide +kernel)) ggL_breaks_L_fitsBus
theorem dL_breaks_0 : decode cL_breaks 0 = .ok (.aload 6, 2) := by decide +kernel
theorem dL_breaks_2 : decode cL_breaks 2 = .ok (.iload 7, 2) := by decide +kernel
theorem dL_breaks_4 : decode cL_breaks 4 = .ok (.invokestatic 17, 3) := by decide +kernel
theorem dL_breaks_7 : decode cL_breaks 7 = .ok (.aload 5, 2) := by decide +kernel
theorem dL_breaks_9 : decode cL_breaks 9 = .ok (.iconst 2, 1) := by decide +kernel
theorem dL_breaks_10 : decode cL_breaks 10 = .ok (.iload 7, 2) := by decide +kernel
theorem dL_breaks_12 : decode cL_breaks 12 = .ok (.imul, 1) := by decide +kernel
theorem dL_breaks_13 : decode cL_breaks 13 = .ok (.iconst 1, 1) := by decide +kernel
theorem dL_breaks_14 : decode cL_breaks 14 = .ok (.iadd, 1) := by decide +kernel
theorem dL_breaks_15 : decode cL_breaks 15 = .ok (.iconst 1, 1) := by decide +kernel
theorem dL_breaks_16 : decode cL_breaks 16 = .ok (.iastore, 1) := by decide +kernel
theorem dL_breaks_17 : decode cL_breaks 17 = .ok (.iconst 0, 1) := by decide +kernel
theorem dL_breaks_18 : decode cL_breaks 18 = .ok (.istore 8, 2) := by decide +kernel
theorem dL_breaks_20 : decode cL_breaks 20 = .ok (.iload 8, 2) := by decide +kernel
theorem dL_breaks_22 : decode cL_breaks 22 = .ok (.aload_n 0, 1) := by decide +kernel
theorem dL_breaks_23 : decode cL_breaks 23 = .ok (.iconst 1, 1) := by decide +kernel
theorem dL_breaks_24 : decode cL_breaks 24 = .ok (.iaload, 1) := by decide +kernel
theorem dL_breaks_25 : decode cL_breaks 25 = .ok (.if_icmp .ge 38, 3) := by decide +kernel
theorem dL_breaks_28 : decode cL_breaks 28 = .ok (.aload_n 2, 1) := by decide +kernel
theorem dL_breaks_29 : decode cL_breaks 29 = .ok (.iload 8, 2) := by decide +kernel
theorem dL_breaks_31 : decode cL_breaks 31 = .ok (.iaload, 1) := by decide +kernel
theorem dL_breaks_32 : decode cL_breaks 32 = .ok (.iconst 1, 1) := by decide +kernel
theorem dL_breaks_33 : decode cL_breaks 33 = .ok (.if_icmp .ne 24, 3) := by decide +kernel
theorem dL_breaks_36 : decode cL_breaks 36 = .ok (.aload_n 3, 1) := by decide +kernel
theorem dL_breaks_37 : decode cL_breaks 37 = .ok (.iload 8, 2) := by decide +kernel
theorem dL_breaks_39 : decode cL_breaks 39 = .ok (.iaload, 1) := by decide +kernel
theorem dL_breaks_40 : decode cL_breaks 40 = .ok (.iload 7, 2) := by decide +kernel
theorem dL_breaks_42 : decode cL_breaks 42 = .ok (.iconst 1, 1) := by decide +kernel
theorem dL_breaks_43 : decode cL_breaks 43 = .ok (.iadd, 1) := by decide +kernel
theorem dL_breaks_44 : decode cL_breaks 44 = .ok (.if_icmp .ne 13, 3) := by decide +kernel
theorem dL_breaks_47 : decode cL_breaks 47 = .ok (.aload_n 2, 1) := by decide +kernel
theorem dL_breaks_48 : decode cL_breaks 48 = .ok (.aload_n 3, 1) := by decide +kernel
theorem dL_breaks_49 : decode cL_breaks 49 = .ok (.aload 4, 2) := by decide +kernel
theorem dL_breaks_51 : decode cL_breaks 51 = .ok (.iload 8, 2) := by decide +kernel
theorem dL_breaks_53 : decode cL_breaks 53 = .ok (.iconst 0, 1) := by decide +kernel
theorem dL_breaks_54 : decode cL_breaks 54 = .ok (.invokestatic 21, 3) := by decide +kernel
theorem dL_breaks_57 : decode cL_breaks 57 = .ok (.iinc 8 1, 3) := by decide +kernel
theorem dL_breaks_60 : decode cL_breaks 60 = .ok (.goto (-40), 3) := by decide +kernel
theorem dL_breaks_63 : decode cL_breaks 63 = .ok (.iconst 0, 1) := by decide +kernel
theorem dL_breaks_64 : decode cL_breaks 64 = .ok (.istore 8, 2) := by decide +kernel
theorem dL_breaks_66 : decode cL_breaks 66 = .ok (.iload 8, 2) := by decide +kernel
theorem dL_breaks_68 : decode cL_breaks 68 = .ok (.aload_n 0, 1) := by decide +kernel
theorem dL_breaks_69 : decode cL_breaks 69 = .ok (.iconst 1, 1) := by decide +kernel
theorem dL_breaks_70 : decode cL_breaks 70 = .ok (.iaload, 1) := by decide +kernel
theorem dL_breaks_71 : decode cL_breaks 71 = .ok (.if_icmp .ge 121, 3) := by decide +kernel
theorem dL_breaks_74 : decode cL_breaks 74 = .ok (.aload_n 2, 1) := by decide +kernel
theorem dL_breaks_75 : decode cL_breaks 75 = .ok (.iload 8, 2) := by decide +kernel
theorem dL_breaks_77 : decode cL_breaks 77 = .ok (.iaload, 1) := by decide +kernel
theorem dL_breaks_78 : decode cL_breaks 78 = .ok (.iconst 2, 1) := by decide +kernel
theorem dL_breaks_79 : decode cL_breaks 79 = .ok (.if_icmp .ne 107, 3) := by decide +kernel
theorem dL_breaks_82 : decode cL_breaks 82 = .ok (.aload_n 3, 1) := by decide +kernel
theorem dL_breaks_83 : decode cL_breaks 83 = .ok (.iload 8, 2) := by decide +kernel
theorem dL_breaks_85 : decode cL_breaks 85 = .ok (.iaload, 1) := by decide +kernel
theorem dL_breaks_86 : decode cL_breaks 86 = .ok (.iload 7, 2) := by decide +kernel
theorem dL_breaks_88 : decode cL_breaks 88 = .ok (.iconst 1, 1) := by decide +kernel
theorem dL_breaks_89 : decode cL_breaks 89 = .ok (.iadd, 1) := by decide +kernel
theorem dL_breaks_90 : decode cL_breaks 90 = .ok (.if_icmp .ne 96, 3) := by decide +kernel
theorem dL_breaks_93 : decode cL_breaks 93 = .ok (.iconst (-1), 1) := by decide +kernel
theorem dL_breaks_94 : decode cL_breaks 94 = .ok (.istore 9, 2) := by decide +kernel
theorem dL_breaks_96 : decode cL_breaks 96 = .ok (.iconst 4, 1) := by decide +kernel
theorem dL_breaks_97 : decode cL_breaks 97 = .ok (.istore 10, 2) := by decide +kernel
theorem dL_breaks_99 : decode cL_breaks 99 = .ok (.iload 10, 2) := by decide +kernel
theorem dL_breaks_101 : decode cL_breaks 101 = .ok (.ifCond .lt 34, 3) := by decide +kernel
theorem dL_breaks_104 : decode cL_breaks 104 = .ok (.aload_n 0, 1) := by decide +kernel
theorem dL_breaks_105 : decode cL_breaks 105 = .ok (.aload_n 1, 1) := by decide +kernel
theorem dL_breaks_106 : decode cL_breaks 106 = .ok (.aload_n 2, 1) := by decide +kernel
theorem dL_breaks_107 : decode cL_breaks 107 = .ok (.aload_n 3, 1) := by decide +kernel
theorem dL_breaks_108 : decode cL_breaks 108 = .ok (.aload 5, 2) := by decide +kernel
theorem dL_breaks_110 : decode cL_breaks 110 = .ok (.iload 10, 2) := by decide +kernel
theorem dL_breaks_112 : decode cL_breaks 112 = .ok (.iload 8, 2) := by decide +kernel
theorem dL_breaks_114 : decode cL_breaks 114 = .ok (.invokestatic 25, 3) := by decide +kernel
theorem dL_breaks_117 : decode cL_breaks 117 = .ok (.ifCond .eq 8, 3) := by decide +kernel
theorem dL_breaks_120 : decode cL_breaks 120 = .ok (.iload 10, 2) := by decide +kernel
theorem dL_breaks_122 : decode cL_breaks 122 = .ok (.goto 5, 3) := by decide +kernel
theorem dL_breaks_125 : decode cL_breaks 125 = .ok (.iload 9, 2) := by decide +kernel
theorem dL_breaks_127 : decode cL_breaks 127 = .ok (.istore 9, 2) := by decide +kernel
theorem dL_breaks_129 : decode cL_breaks 129 = .ok (.iinc 10 (-1), 3) := by decide +kernel
theorem dL_breaks_132 : decode cL_breaks 132 = .ok (.goto (-33), 3) := by decide +kernel
theorem dL_breaks_135 : decode cL_breaks 135 = .ok (.aload_n 3, 1) := by decide +kernel
theorem dL_breaks_136 : decode cL_breaks 136 = .ok (.iload 8, 2) := by decide +kernel
theorem dL_breaks_138 : decode cL_breaks 138 = .ok (.iload 9, 2) := by decide +kernel
theorem dL_breaks_140 : decode cL_breaks 140 = .ok (.iconst 1, 1) := by decide +kernel
theorem dL_breaks_141 : decode cL_breaks 141 = .ok (.iadd, 1) := by decide +kernel
theorem dL_breaks_142 : decode cL_breaks 142 = .ok (.iastore, 1) := by decide +kernel
theorem dL_breaks_143 : decode cL_breaks 143 = .ok (.iload 9, 2) := by decide +kernel
theorem dL_breaks_145 : decode cL_breaks 145 = .ok (.ifCond .ge 16, 3) := by decide +kernel
theorem dL_breaks_148 : decode cL_breaks 148 = .ok (.aload_n 2, 1) := by decide +kernel
theorem dL_breaks_149 : decode cL_breaks 149 = .ok (.aload_n 3, 1) := by decide +kernel
theorem dL_breaks_150 : decode cL_breaks 150 = .ok (.aload 4, 2) := by decide +kernel
theorem dL_breaks_152 : decode cL_breaks 152 = .ok (.iload 8, 2) := by decide +kernel
theorem dL_breaks_154 : decode cL_breaks 154 = .ok (.iconst 4, 1) := by decide +kernel
theorem dL_breaks_155 : decode cL_breaks 155 = .ok (.invokestatic 21, 3) := by decide +kernel
theorem dL_breaks_158 : decode cL_breaks 158 = .ok (.goto 28, 3) := by decide +kernel
theorem dL_breaks_161 : decode cL_breaks 161 = .ok (.aload 5, 2) := by decide +kernel
theorem dL_breaks_163 : decode cL_breaks 163 = .ok (.iconst 2, 1) := by decide +kernel
theorem dL_breaks_164 : decode cL_breaks 164 = .ok (.iload 9, 2) := by decide +kernel
theorem dL_breaks_166 : decode cL_breaks 166 = .ok (.imul, 1) := by decide +kernel
theorem dL_breaks_167 : decode cL_breaks 167 = .ok (.dup2, 1) := by decide +kernel
theorem dL_breaks_168 : decode cL_breaks 168 = .ok (.iaload, 1) := by decide +kernel
theorem dL_breaks_169 : decode cL_breaks 169 = .ok (.aload_n 1, 1) := by decide +kernel
theorem dL_breaks_170 : decode cL_breaks 170 = .ok (.iconst 3, 1) := by decide +kernel
theorem dL_breaks_171 : decode cL_breaks 171 = .ok (.iload 8, 2) := by decide +kernel
theorem dL_breaks_173 : decode cL_breaks 173 = .ok (.imul, 1) := by decide +kernel
theorem dL_breaks_174 : decode cL_breaks 174 = .ok (.iconst 2, 1) := by decide +kernel
theorem dL_breaks_175 : decode cL_breaks 175 = .ok (.iadd, 1) := by decide +kernel
theorem dL_breaks_176 : decode cL_breaks 176 = .ok (.iaload, 1) := by decide +kernel
theorem dL_breaks_177 : decode cL_breaks 177 = .ok (.isub, 1) := by decide +kernel
theorem dL_breaks_178 : decode cL_breaks 178 = .ok (.iastore, 1) := by decide +kernel
theorem dL_breaks_179 : decode cL_breaks 179 = .ok (.aload 6, 2) := by decide +kernel
theorem dL_breaks_181 : decode cL_breaks 181 = .ok (.iload 9, 2) := by decide +kernel
theorem dL_breaks_183 : decode cL_breaks 183 = .ok (.invokestatic 17, 3) := by decide +kernel
theorem dL_breaks_186 : decode cL_breaks 186 = .ok (.iinc 8 1, 3) := by decide +kernel
theorem dL_breaks_189 : decode cL_breaks 189 = .ok (.goto (-123), 3) := by decide +kernel
theorem dL_breaks_192 : decode cL_breaks 192 = .ok (.return_, 1) := by decide +kernel
set_option maxRecDepth 20000 in
theorem ggL_ails_L_turns : GoodIn wsL_ails wsL_turns := goodIn_r _ [4] (by decide +kernel) (by decide +kernel)
set_option maxRecDepth 20000 in
theorem gL_ails_L_turns : GoodIn wsL_ails (va_wsS RL 21 yL_turns wsL_turns) := goodIn_app (goodIn_of _ (by decide +kernel)) ggL_ails_L_turns
set_option maxRecDepth 20000 in
theorem ggL_ails_L_fitsDriver : GoodIn wsL_ails wsL_fitsDriver := goodIn_r _ [7, 8, 9, 3, 10] (by decide +kernel) (by decide +kernel)
set_option maxRecDepth 20000 in
theorem gL_ails_L_fitsDriver : GoodIn wsL_ails (va_wsS RL 29 yL_fitsDriver wsL_fitsDriver) := goodIn_app (goodIn_of _ (by decide +kernel)) ggL_ails_L_fitsDriver
theorem dL_ails_0 : decode cL_ails 0 = .ok (.aload 5, 2) := by decide +kernel
theorem dL_ails_2 : decode cL_ails 2 = .ok (.iload 6, 2) := by decide +kernel
theorem dL_ails_4 : decode cL_ails 4 = .ok (.iconst 1, 1) := by decide +kernel
theorem dL_ails_5 : decode cL_ails 5 = .ok (.iastore, 1) := by decide +kernel
theorem dL_ails_6 : decode cL_ails 6 = .ok (.iconst 0, 1) := by decide +kernel
theorem dL_ails_7 : decode cL_ails 7 = .ok (.istore 7, 2) := by decide +kernel
theorem dL_ails_9 : decode cL_ails 9 = .ok (.iload 7, 2) := by decide +kernel
theorem dL_ails_11 : decode cL_ails 11 = .ok (.aload_n 0, 1) := by decide +kernel
theorem dL_ails_12 : decode cL_ails 12 = .ok (.iconst 1, 1) := by decide +kernel
theorem dL_ails_13 : decode cL_ails 13 = .ok (.iaload, 1) := by decide +kernel
theorem dL_ails_14 : decode cL_ails 14 = .ok (.if_icmp .ge 39, 3) := by decide +kernel
theorem dL_ails_17 : decode cL_ails 17 = .ok (.aload_n 2, 1) := by decide +kernel
theorem dL_ails_18 : decode cL_ails 18 = .ok (.iload 7, 2) := by decide +kernel
theorem dL_ails_20 : decode cL_ails 20 = .ok (.iaload, 1) := by decide +kernel
theorem dL_ails_21 : decode cL_ails 21 = .ok (.iconst 1, 1) := by decide +kernel
theorem dL_ails_22 : decode cL_ails 22 = .ok (.if_icmp .ne 25, 3) := by decide +kernel
theorem dL_ails_25 : decode cL_ails 25 = .ok (.aload 4, 2) := by decide +kernel
theorem dL_ails_27 : decode cL_ails 27 = .ok (.iload 7, 2) := by decide +kernel
theorem dL_ails_29 : decode cL_ails 29 = .ok (.iaload, 1) := by decide +kernel
theorem dL_ails_30 : decode cL_ails 30 = .ok (.iload 6, 2) := by decide +kernel
theorem dL_ails_32 : decode cL_ails 32 = .ok (.iconst 1, 1) := by decide +kernel
theorem dL_ails_33 : decode cL_ails 33 = .ok (.iadd, 1) := by decide +kernel
theorem dL_ails_34 : decode cL_ails 34 = .ok (.if_icmp .ne 13, 3) := by decide +kernel
theorem dL_ails_37 : decode cL_ails 37 = .ok (.aload_n 2, 1) := by decide +kernel
theorem dL_ails_38 : decode cL_ails 38 = .ok (.aload_n 3, 1) := by decide +kernel
theorem dL_ails_39 : decode cL_ails 39 = .ok (.aload 4, 2) := by decide +kernel
theorem dL_ails_41 : decode cL_ails 41 = .ok (.iload 7, 2) := by decide +kernel
theorem dL_ails_43 : decode cL_ails 43 = .ok (.iconst 0, 1) := by decide +kernel
theorem dL_ails_44 : decode cL_ails 44 = .ok (.invokestatic 21, 3) := by decide +kernel
theorem dL_ails_47 : decode cL_ails 47 = .ok (.iinc 7 1, 3) := by decide +kernel
theorem dL_ails_50 : decode cL_ails 50 = .ok (.goto (-41), 3) := by decide +kernel
theorem dL_ails_53 : decode cL_ails 53 = .ok (.iconst 0, 1) := by decide +kernel
theorem dL_ails_54 : decode cL_ails 54 = .ok (.istore 7, 2) := by decide +kernel
theorem dL_ails_56 : decode cL_ails 56 = .ok (.iload 7, 2) := by decide +kernel
theorem dL_ails_58 : decode cL_ails 58 = .ok (.aload_n 0, 1) := by decide +kernel
theorem dL_ails_59 : decode cL_ails 59 = .ok (.iconst 1, 1) := by decide +kernel
theorem dL_ails_60 : decode cL_ails 60 = .ok (.iaload, 1) := by decide +kernel
theorem dL_ails_61 : decode cL_ails 61 = .ok (.if_icmp .ge 96, 3) := by decide +kernel
theorem dL_ails_64 : decode cL_ails 64 = .ok (.aload_n 2, 1) := by decide +kernel
theorem dL_ails_65 : decode cL_ails 65 = .ok (.iload 7, 2) := by decide +kernel
theorem dL_ails_67 : decode cL_ails 67 = .ok (.iaload, 1) := by decide +kernel
theorem dL_ails_68 : decode cL_ails 68 = .ok (.iconst 2, 1) := by decide +kernel
theorem dL_ails_69 : decode cL_ails 69 = .ok (.if_icmp .ne 82, 3) := by decide +kernel
theorem dL_ails_72 : decode cL_ails 72 = .ok (.aload 4, 2) := by decide +kernel
theorem dL_ails_74 : decode cL_ails 74 = .ok (.iload 7, 2) := by decide +kernel
theorem dL_ails_76 : decode cL_ails 76 = .ok (.iaload, 1) := by decide +kernel
theorem dL_ails_77 : decode cL_ails 77 = .ok (.iload 6, 2) := by decide +kernel
theorem dL_ails_79 : decode cL_ails 79 = .ok (.iconst 1, 1) := by decide +kernel
theorem dL_ails_80 : decode cL_ails 80 = .ok (.iadd, 1) := by decide +kernel
theorem dL_ails_81 : decode cL_ails 81 = .ok (.if_icmp .ne 70, 3) := by decide +kernel
theorem dL_ails_84 : decode cL_ails 84 = .ok (.iconst (-1), 1) := by decide +kernel
theorem dL_ails_85 : decode cL_ails 85 = .ok (.istore 8, 2) := by decide +kernel
theorem dL_ails_87 : decode cL_ails 87 = .ok (.iconst 4, 1) := by decide +kernel
theorem dL_ails_88 : decode cL_ails 88 = .ok (.istore 9, 2) := by decide +kernel
theorem dL_ails_90 : decode cL_ails 90 = .ok (.iload 9, 2) := by decide +kernel
theorem dL_ails_92 : decode cL_ails 92 = .ok (.ifCond .lt 35, 3) := by decide +kernel
theorem dL_ails_95 : decode cL_ails 95 = .ok (.aload_n 0, 1) := by decide +kernel
theorem dL_ails_96 : decode cL_ails 96 = .ok (.aload_n 1, 1) := by decide +kernel
theorem dL_ails_97 : decode cL_ails 97 = .ok (.aload_n 2, 1) := by decide +kernel
theorem dL_ails_98 : decode cL_ails 98 = .ok (.aload 4, 2) := by decide +kernel
theorem dL_ails_100 : decode cL_ails 100 = .ok (.aload 5, 2) := by decide +kernel
theorem dL_ails_102 : decode cL_ails 102 = .ok (.iload 9, 2) := by decide +kernel
theorem dL_ails_104 : decode cL_ails 104 = .ok (.iload 7, 2) := by decide +kernel
theorem dL_ails_106 : decode cL_ails 106 = .ok (.invokestatic 29, 3) := by decide +kernel
theorem dL_ails_109 : decode cL_ails 109 = .ok (.ifCond .eq 8, 3) := by decide +kernel
theorem dL_ails_112 : decode cL_ails 112 = .ok (.iload 9, 2) := by decide +kernel
theorem dL_ails_114 : decode cL_ails 114 = .ok (.goto 5, 3) := by decide +kernel
theorem dL_ails_117 : decode cL_ails 117 = .ok (.iload 8, 2) := by decide +kernel
theorem dL_ails_119 : decode cL_ails 119 = .ok (.istore 8, 2) := by decide +kernel
theorem dL_ails_121 : decode cL_ails 121 = .ok (.iinc 9 (-1), 3) := by decide +kernel
theorem dL_ails_124 : decode cL_ails 124 = .ok (.goto (-34), 3) := by decide +kernel
theorem dL_ails_127 : decode cL_ails 127 = .ok (.aload 4, 2) := by decide +kernel
theorem dL_ails_129 : decode cL_ails 129 = .ok (.iload 7, 2) := by decide +kernel
theorem dL_ails_131 : decode cL_ails 131 = .ok (.iload 8, 2) := by decide +kernel
theorem dL_ails_133 : decode cL_ails 133 = .ok (.iconst 1, 1) := by decide +kernel
theorem dL_ails_134 : decode cL_ails 134 = .ok (.iadd, 1) := by decide +kernel
theorem dL_ails_135 : decode cL_ails 135 = .ok (.iastore, 1) := by decide +kernel
theorem dL_ails_136 : decode cL_ails 136 = .ok (.iload 8, 2) := by decide +kernel
theorem dL_ails_138 : decode cL_ails 138 = .ok (.ifCond .ge 13, 3) := by decide +kernel
theorem dL_ails_141 : decode cL_ails 141 = .ok (.aload_n 2, 1) := by decide +kernel
theorem dL_ails_142 : decode cL_ails 142 = .ok (.aload_n 3, 1) := by decide +kernel
theorem dL_ails_143 : decode cL_ails 143 = .ok (.aload 4, 2) := by decide +kernel
theorem dL_ails_145 : decode cL_ails 145 = .ok (.iload 7, 2) := by decide +kernel
theorem dL_ails_147 : decode cL_ails 147 = .ok (.iconst 4, 1) := by decide +kernel
theorem dL_ails_148 : decode cL_ails 148 = .ok (.invokestatic 21, 3) := by decide +kernel
theorem dL_ails_151 : decode cL_ails 151 = .ok (.iinc 7 1, 3) := by decide +kernel
theorem dL_ails_154 : decode cL_ails 154 = .ok (.goto (-98), 3) := by decide +kernel
theorem dL_ails_157 : decode cL_ails 157 = .ok (.return_, 1) := by decide +kernel
set_option maxRecDepth 20000 in
theorem ggL_passes_L_leaves : GoodIn wsL_passes wsL_leaves := goodIn_r _ [4] (by decide +kernel) (by decide +kernel)
set_option maxRecDepth 20000 in
theorem gL_passes_L_leaves : GoodIn wsL_passes (va_wsS RL 17 yL_leaves wsL_leaves) := goodIn_app (goodIn_of _ (by decide +kernel)) ggL_passes_L_leaves
set_option maxRecDepth 20000 in
theorem ggL_passes_L_turns : GoodIn wsL_passes wsL_turns := goodIn_r _ [7] (by decide +kernel) (by decide +kernel)
set_option maxRecDepth 20000 in
theorem gL_passes_L_turns : GoodIn wsL_passes (va_wsS RL 21 yL_turns wsL_turns) := goodIn_app (goodIn_of _ (by decide +kernel)) ggL_passes_L_turns
theorem dL_passes_0 : decode cL_passes 0 = .ok (.aload_n 0, 1) := by decide +kernel
theorem dL_passes_1 : decode cL_passes 1 = .ok (.iconst 0, 1) := by decide +kernel
theorem dL_passes_2 : decode cL_passes 2 = .ok (.iaload, 1) := by decide +kernel
theorem dL_passes_3 : decode cL_passes 3 = .ok (.iload 7, 2) := by decide +kernel
theorem dL_passes_5 : decode cL_passes 5 = .ok (.if_icmp .ge 290, 3) := by decide +kernel
theorem dL_passes_8 : decode cL_passes 8 = .ok (.iload 7, 2) := by decide +kernel
theorem dL_passes_10 : decode cL_passes 10 = .ok (.istore 8, 2) := by decide +kernel
theorem dL_passes_12 : decode cL_passes 12 = .ok (.iconst 0, 1) := by decide +kernel
theorem dL_passes_13 : decode cL_passes 13 = .ok (.istore 9, 2) := by decide +kernel
theorem dL_passes_15 : decode cL_passes 15 = .ok (.iload 9, 2) := by decide +kernel
theorem dL_passes_17 : decode cL_passes 17 = .ok (.iconst 3, 1) := by decide +kernel
theorem dL_passes_18 : decode cL_passes 18 = .ok (.aload_n 0, 1) := by decide +kernel
theorem dL_passes_19 : decode cL_passes 19 = .ok (.iconst 1, 1) := by decide +kernel
theorem dL_passes_20 : decode cL_passes 20 = .ok (.iaload, 1) := by decide +kernel
theorem dL_passes_21 : decode cL_passes 21 = .ok (.imul, 1) := by decide +kernel
theorem dL_passes_22 : decode cL_passes 22 = .ok (.if_icmp .ge 47, 3) := by decide +kernel
theorem dL_passes_25 : decode cL_passes 25 = .ok (.iload 9, 2) := by decide +kernel
theorem dL_passes_27 : decode cL_passes 27 = .ok (.iconst 3, 1) := by decide +kernel
theorem dL_passes_28 : decode cL_passes 28 = .ok (.irem, 1) := by decide +kernel
theorem dL_passes_29 : decode cL_passes 29 = .ok (.iconst 2, 1) := by decide +kernel
theorem dL_passes_30 : decode cL_passes 30 = .ok (.if_icmp .ge 29, 3) := by decide +kernel
theorem dL_passes_33 : decode cL_passes 33 = .ok (.aload_n 1, 1) := by decide +kernel
theorem dL_passes_34 : decode cL_passes 34 = .ok (.iload 9, 2) := by decide +kernel
theorem dL_passes_36 : decode cL_passes 36 = .ok (.iaload, 1) := by decide +kernel
theorem dL_passes_37 : decode cL_passes 37 = .ok (.aload_n 0, 1) := by decide +kernel
theorem dL_passes_38 : decode cL_passes 38 = .ok (.iconst 0, 1) := by decide +kernel
