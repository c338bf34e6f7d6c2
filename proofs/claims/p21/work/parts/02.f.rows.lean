theorem dL_passes_39 : decode cL_passes 39 = .ok (.iaload, 1) := by decide +kernel
theorem dL_passes_40 : decode cL_passes 40 = .ok (.if_icmp .le 19, 3) := by decide +kernel
theorem dL_passes_43 : decode cL_passes 43 = .ok (.aload_n 1, 1) := by decide +kernel
theorem dL_passes_44 : decode cL_passes 44 = .ok (.iload 9, 2) := by decide +kernel
theorem dL_passes_46 : decode cL_passes 46 = .ok (.iaload, 1) := by decide +kernel
theorem dL_passes_47 : decode cL_passes 47 = .ok (.iload 8, 2) := by decide +kernel
theorem dL_passes_49 : decode cL_passes 49 = .ok (.if_icmp .ge 10, 3) := by decide +kernel
theorem dL_passes_52 : decode cL_passes 52 = .ok (.aload_n 1, 1) := by decide +kernel
theorem dL_passes_53 : decode cL_passes 53 = .ok (.iload 9, 2) := by decide +kernel
theorem dL_passes_55 : decode cL_passes 55 = .ok (.iaload, 1) := by decide +kernel
theorem dL_passes_56 : decode cL_passes 56 = .ok (.goto 5, 3) := by decide +kernel
theorem dL_passes_59 : decode cL_passes 59 = .ok (.iload 8, 2) := by decide +kernel
theorem dL_passes_61 : decode cL_passes 61 = .ok (.istore 8, 2) := by decide +kernel
theorem dL_passes_63 : decode cL_passes 63 = .ok (.iinc 9 1, 3) := by decide +kernel
theorem dL_passes_66 : decode cL_passes 66 = .ok (.goto (-51), 3) := by decide +kernel
theorem dL_passes_69 : decode cL_passes 69 = .ok (.iconst 0, 1) := by decide +kernel
theorem dL_passes_70 : decode cL_passes 70 = .ok (.istore 9, 2) := by decide +kernel
theorem dL_passes_72 : decode cL_passes 72 = .ok (.iload 9, 2) := by decide +kernel
theorem dL_passes_74 : decode cL_passes 74 = .ok (.iconst 2, 1) := by decide +kernel
theorem dL_passes_75 : decode cL_passes 75 = .ok (.if_icmp .ge 60, 3) := by decide +kernel
theorem dL_passes_78 : decode cL_passes 78 = .ok (.aload 6, 2) := by decide +kernel
theorem dL_passes_80 : decode cL_passes 80 = .ok (.iload 9, 2) := by decide +kernel
theorem dL_passes_82 : decode cL_passes 82 = .ok (.iaload, 1) := by decide +kernel
theorem dL_passes_83 : decode cL_passes 83 = .ok (.iconst 1, 1) := by decide +kernel
theorem dL_passes_84 : decode cL_passes 84 = .ok (.isub, 1) := by decide +kernel
theorem dL_passes_85 : decode cL_passes 85 = .ok (.istore 10, 2) := by decide +kernel
theorem dL_passes_87 : decode cL_passes 87 = .ok (.iload 10, 2) := by decide +kernel
theorem dL_passes_89 : decode cL_passes 89 = .ok (.ifCond .lt 40, 3) := by decide +kernel
theorem dL_passes_92 : decode cL_passes 92 = .ok (.aload 5, 2) := by decide +kernel
theorem dL_passes_94 : decode cL_passes 94 = .ok (.iconst 2, 1) := by decide +kernel
theorem dL_passes_95 : decode cL_passes 95 = .ok (.iload 10, 2) := by decide +kernel
theorem dL_passes_97 : decode cL_passes 97 = .ok (.imul, 1) := by decide +kernel
theorem dL_passes_98 : decode cL_passes 98 = .ok (.iaload, 1) := by decide +kernel
theorem dL_passes_99 : decode cL_passes 99 = .ok (.iload 8, 2) := by decide +kernel
theorem dL_passes_101 : decode cL_passes 101 = .ok (.iadd, 1) := by decide +kernel
theorem dL_passes_102 : decode cL_passes 102 = .ok (.aload_n 0, 1) := by decide +kernel
theorem dL_passes_103 : decode cL_passes 103 = .ok (.iconst 0, 1) := by decide +kernel
theorem dL_passes_104 : decode cL_passes 104 = .ok (.iaload, 1) := by decide +kernel
theorem dL_passes_105 : decode cL_passes 105 = .ok (.isub, 1) := by decide +kernel
theorem dL_passes_106 : decode cL_passes 106 = .ok (.istore 11, 2) := by decide +kernel
theorem dL_passes_108 : decode cL_passes 108 = .ok (.aload 5, 2) := by decide +kernel
theorem dL_passes_110 : decode cL_passes 110 = .ok (.iconst 2, 1) := by decide +kernel
theorem dL_passes_111 : decode cL_passes 111 = .ok (.iload 10, 2) := by decide +kernel
theorem dL_passes_113 : decode cL_passes 113 = .ok (.imul, 1) := by decide +kernel
theorem dL_passes_114 : decode cL_passes 114 = .ok (.iload 11, 2) := by decide +kernel
theorem dL_passes_116 : decode cL_passes 116 = .ok (.bipush 100, 2) := by decide +kernel
theorem dL_passes_118 : decode cL_passes 118 = .ok (.if_icmp .le 8, 3) := by decide +kernel
theorem dL_passes_121 : decode cL_passes 121 = .ok (.bipush 100, 2) := by decide +kernel
theorem dL_passes_123 : decode cL_passes 123 = .ok (.goto 5, 3) := by decide +kernel
theorem dL_passes_126 : decode cL_passes 126 = .ok (.iload 11, 2) := by decide +kernel
theorem dL_passes_128 : decode cL_passes 128 = .ok (.iastore, 1) := by decide +kernel
theorem dL_passes_129 : decode cL_passes 129 = .ok (.iinc 9 1, 3) := by decide +kernel
theorem dL_passes_132 : decode cL_passes 132 = .ok (.goto (-60), 3) := by decide +kernel
theorem dL_passes_135 : decode cL_passes 135 = .ok (.aload_n 0, 1) := by decide +kernel
theorem dL_passes_136 : decode cL_passes 136 = .ok (.iconst 0, 1) := by decide +kernel
theorem dL_passes_137 : decode cL_passes 137 = .ok (.iload 8, 2) := by decide +kernel
theorem dL_passes_139 : decode cL_passes 139 = .ok (.iastore, 1) := by decide +kernel
theorem dL_passes_140 : decode cL_passes 140 = .ok (.iconst 0, 1) := by decide +kernel
theorem dL_passes_141 : decode cL_passes 141 = .ok (.istore 9, 2) := by decide +kernel
theorem dL_passes_143 : decode cL_passes 143 = .ok (.iload 9, 2) := by decide +kernel
theorem dL_passes_145 : decode cL_passes 145 = .ok (.aload_n 0, 1) := by decide +kernel
theorem dL_passes_146 : decode cL_passes 146 = .ok (.iconst 1, 1) := by decide +kernel
theorem dL_passes_147 : decode cL_passes 147 = .ok (.iaload, 1) := by decide +kernel
theorem dL_passes_148 : decode cL_passes 148 = .ok (.if_icmp .ge 42, 3) := by decide +kernel
theorem dL_passes_151 : decode cL_passes 151 = .ok (.aload_n 2, 1) := by decide +kernel
theorem dL_passes_152 : decode cL_passes 152 = .ok (.iload 9, 2) := by decide +kernel
theorem dL_passes_154 : decode cL_passes 154 = .ok (.aload_n 2, 1) := by decide +kernel
theorem dL_passes_155 : decode cL_passes 155 = .ok (.iload 9, 2) := by decide +kernel
theorem dL_passes_157 : decode cL_passes 157 = .ok (.iaload, 1) := by decide +kernel
theorem dL_passes_158 : decode cL_passes 158 = .ok (.iconst 2, 1) := by decide +kernel
theorem dL_passes_159 : decode cL_passes 159 = .ok (.if_icmp .ne 20, 3) := by decide +kernel
theorem dL_passes_162 : decode cL_passes 162 = .ok (.aload_n 1, 1) := by decide +kernel
theorem dL_passes_163 : decode cL_passes 163 = .ok (.iconst 3, 1) := by decide +kernel
theorem dL_passes_164 : decode cL_passes 164 = .ok (.iload 9, 2) := by decide +kernel
theorem dL_passes_166 : decode cL_passes 166 = .ok (.imul, 1) := by decide +kernel
theorem dL_passes_167 : decode cL_passes 167 = .ok (.iconst 1, 1) := by decide +kernel
theorem dL_passes_168 : decode cL_passes 168 = .ok (.iadd, 1) := by decide +kernel
theorem dL_passes_169 : decode cL_passes 169 = .ok (.iaload, 1) := by decide +kernel
theorem dL_passes_170 : decode cL_passes 170 = .ok (.iload 8, 2) := by decide +kernel
theorem dL_passes_172 : decode cL_passes 172 = .ok (.if_icmp .ne 7, 3) := by decide +kernel
theorem dL_passes_175 : decode cL_passes 175 = .ok (.iconst 3, 1) := by decide +kernel
theorem dL_passes_176 : decode cL_passes 176 = .ok (.goto 7, 3) := by decide +kernel
theorem dL_passes_179 : decode cL_passes 179 = .ok (.aload_n 2, 1) := by decide +kernel
theorem dL_passes_180 : decode cL_passes 180 = .ok (.iload 9, 2) := by decide +kernel
theorem dL_passes_182 : decode cL_passes 182 = .ok (.iaload, 1) := by decide +kernel
theorem dL_passes_183 : decode cL_passes 183 = .ok (.iastore, 1) := by decide +kernel
theorem dL_passes_184 : decode cL_passes 184 = .ok (.iinc 9 1, 3) := by decide +kernel
theorem dL_passes_187 : decode cL_passes 187 = .ok (.goto (-44), 3) := by decide +kernel
theorem dL_passes_190 : decode cL_passes 190 = .ok (.iconst 0, 1) := by decide +kernel
theorem dL_passes_191 : decode cL_passes 191 = .ok (.istore 9, 2) := by decide +kernel
theorem dL_passes_193 : decode cL_passes 193 = .ok (.iload 9, 2) := by decide +kernel
theorem dL_passes_195 : decode cL_passes 195 = .ok (.aload_n 0, 1) := by decide +kernel
theorem dL_passes_196 : decode cL_passes 196 = .ok (.iconst 1, 1) := by decide +kernel
theorem dL_passes_197 : decode cL_passes 197 = .ok (.iaload, 1) := by decide +kernel
theorem dL_passes_198 : decode cL_passes 198 = .ok (.if_icmp .ge 94, 3) := by decide +kernel
theorem dL_passes_201 : decode cL_passes 201 = .ok (.aload_n 1, 1) := by decide +kernel
theorem dL_passes_202 : decode cL_passes 202 = .ok (.iconst 3, 1) := by decide +kernel
theorem dL_passes_203 : decode cL_passes 203 = .ok (.iload 9, 2) := by decide +kernel
theorem dL_passes_205 : decode cL_passes 205 = .ok (.imul, 1) := by decide +kernel
theorem dL_passes_206 : decode cL_passes 206 = .ok (.iaload, 1) := by decide +kernel
theorem dL_passes_207 : decode cL_passes 207 = .ok (.iload 8, 2) := by decide +kernel
theorem dL_passes_209 : decode cL_passes 209 = .ok (.if_icmp .ne 49, 3) := by decide +kernel
theorem dL_passes_212 : decode cL_passes 212 = .ok (.aload_n 2, 1) := by decide +kernel
theorem dL_passes_213 : decode cL_passes 213 = .ok (.iload 9, 2) := by decide +kernel
theorem dL_passes_215 : decode cL_passes 215 = .ok (.iaload, 1) := by decide +kernel
theorem dL_passes_216 : decode cL_passes 216 = .ok (.iconst 1, 1) := by decide +kernel
theorem dL_passes_217 : decode cL_passes 217 = .ok (.if_icmp .ne 41, 3) := by decide +kernel
theorem dL_passes_220 : decode cL_passes 220 = .ok (.aload_n 2, 1) := by decide +kernel
theorem dL_passes_221 : decode cL_passes 221 = .ok (.iload 9, 2) := by decide +kernel
theorem dL_passes_223 : decode cL_passes 223 = .ok (.iconst 2, 1) := by decide +kernel
theorem dL_passes_224 : decode cL_passes 224 = .ok (.iastore, 1) := by decide +kernel
theorem dL_passes_225 : decode cL_passes 225 = .ok (.aload 5, 2) := by decide +kernel
theorem dL_passes_227 : decode cL_passes 227 = .ok (.iconst 2, 1) := by decide +kernel
theorem dL_passes_228 : decode cL_passes 228 = .ok (.aload_n 3, 1) := by decide +kernel
theorem dL_passes_229 : decode cL_passes 229 = .ok (.iload 9, 2) := by decide +kernel
theorem dL_passes_231 : decode cL_passes 231 = .ok (.iaload, 1) := by decide +kernel
theorem dL_passes_232 : decode cL_passes 232 = .ok (.imul, 1) := by decide +kernel
theorem dL_passes_233 : decode cL_passes 233 = .ok (.iconst 2, 1) := by decide +kernel
theorem dL_passes_234 : decode cL_passes 234 = .ok (.isub, 1) := by decide +kernel
theorem dL_passes_235 : decode cL_passes 235 = .ok (.dup2, 1) := by decide +kernel
theorem dL_passes_236 : decode cL_passes 236 = .ok (.iaload, 1) := by decide +kernel
theorem dL_passes_237 : decode cL_passes 237 = .ok (.aload_n 1, 1) := by decide +kernel
theorem dL_passes_238 : decode cL_passes 238 = .ok (.iconst 3, 1) := by decide +kernel
theorem dL_passes_239 : decode cL_passes 239 = .ok (.iload 9, 2) := by decide +kernel
theorem dL_passes_241 : decode cL_passes 241 = .ok (.imul, 1) := by decide +kernel
theorem dL_passes_242 : decode cL_passes 242 = .ok (.iconst 2, 1) := by decide +kernel
theorem dL_passes_243 : decode cL_passes 243 = .ok (.iadd, 1) := by decide +kernel
theorem dL_passes_244 : decode cL_passes 244 = .ok (.iaload, 1) := by decide +kernel
theorem dL_passes_245 : decode cL_passes 245 = .ok (.isub, 1) := by decide +kernel
theorem dL_passes_246 : decode cL_passes 246 = .ok (.iastore, 1) := by decide +kernel
theorem dL_passes_247 : decode cL_passes 247 = .ok (.aload 6, 2) := by decide +kernel
theorem dL_passes_249 : decode cL_passes 249 = .ok (.aload_n 3, 1) := by decide +kernel
theorem dL_passes_250 : decode cL_passes 250 = .ok (.iload 9, 2) := by decide +kernel
theorem dL_passes_252 : decode cL_passes 252 = .ok (.iaload, 1) := by decide +kernel
theorem dL_passes_253 : decode cL_passes 253 = .ok (.iconst 1, 1) := by decide +kernel
theorem dL_passes_254 : decode cL_passes 254 = .ok (.isub, 1) := by decide +kernel
theorem dL_passes_255 : decode cL_passes 255 = .ok (.invokestatic 17, 3) := by decide +kernel
theorem dL_passes_258 : decode cL_passes 258 = .ok (.aload_n 1, 1) := by decide +kernel
theorem dL_passes_259 : decode cL_passes 259 = .ok (.iconst 3, 1) := by decide +kernel
theorem dL_passes_260 : decode cL_passes 260 = .ok (.iload 9, 2) := by decide +kernel
theorem dL_passes_262 : decode cL_passes 262 = .ok (.imul, 1) := by decide +kernel
theorem dL_passes_263 : decode cL_passes 263 = .ok (.iaload, 1) := by decide +kernel
theorem dL_passes_264 : decode cL_passes 264 = .ok (.iload 8, 2) := by decide +kernel
theorem dL_passes_266 : decode cL_passes 266 = .ok (.if_icmp .ne 20, 3) := by decide +kernel
theorem dL_passes_269 : decode cL_passes 269 = .ok (.aload_n 2, 1) := by decide +kernel
theorem dL_passes_270 : decode cL_passes 270 = .ok (.iload 9, 2) := by decide +kernel
theorem dL_passes_272 : decode cL_passes 272 = .ok (.iaload, 1) := by decide +kernel
theorem dL_passes_273 : decode cL_passes 273 = .ok (.ifCond .ne 13, 3) := by decide +kernel
theorem dL_passes_276 : decode cL_passes 276 = .ok (.aload_n 2, 1) := by decide +kernel
theorem dL_passes_277 : decode cL_passes 277 = .ok (.aload_n 3, 1) := by decide +kernel
theorem dL_passes_278 : decode cL_passes 278 = .ok (.aload 4, 2) := by decide +kernel
theorem dL_passes_280 : decode cL_passes 280 = .ok (.iload 9, 2) := by decide +kernel
theorem dL_passes_282 : decode cL_passes 282 = .ok (.iconst 4, 1) := by decide +kernel
theorem dL_passes_283 : decode cL_passes 283 = .ok (.invokestatic 21, 3) := by decide +kernel
theorem dL_passes_286 : decode cL_passes 286 = .ok (.iinc 9 1, 3) := by decide +kernel
theorem dL_passes_289 : decode cL_passes 289 = .ok (.goto (-96), 3) := by decide +kernel
theorem dL_passes_292 : decode cL_passes 292 = .ok (.goto (-292), 3) := by decide +kernel
theorem dL_passes_295 : decode cL_passes 295 = .ok (.return_, 1) := by decide +kernel
set_option maxRecDepth 20000 in
theorem ggL_does_X1_run : GoodIn wsL_does wsX1_run := goodIn_ca (goodIn_ca (goodIn_r _ [8, 9, 10, 11, 12, 13, 14, 15, 7, 16, 17, 18, 19, 20, 21, 22, 23, 24, 25, 26, 154, 155, 156, 157, 158, 159, 160, 161, 162, 163, 164, 165, 166, 167, 168, 169, 170, 171] (by decide +kernel) (by decide +kernel)) (goodIn_sub (fun _ h => List.mem_cons_of_mem _ (List.mem_append_left _ (List.mem_append_left _ (List.mem_append_right _ h)))) (by decide +kernel))) (goodIn_sub (fun _ h => List.mem_cons_of_mem _ (List.mem_append_left _ (List.mem_append_right _ h))) (by decide +kernel))
set_option maxRecDepth 20000 in
theorem gL_does_X1_run : GoodIn wsL_does (wsV RL 32 RX1 yX1_run wsX1_run) := goodIn_app (goodIn_of _ (by decide +kernel)) ggL_does_X1_run
set_option maxRecDepth 20000 in
theorem ggL_does_X1_order : GoodIn wsL_does wsX1_order := goodIn_ca (goodIn_ca (goodIn_ca (goodIn_r _ [30, 9, 10, 12, 31, 13, 32, 33, 7, 34, 35, 36, 14, 15, 16, 17, 18, 37, 38, 39, 40, 11, 41, 42, 43, 44, 45, 46, 47, 48, 49, 50, 51, 52, 53, 54, 55, 56, 57, 58, 59, 60, 61, 62, 63, 22, 64, 65, 66, 67, 68, 69, 70, 24, 25, 71, 72, 73, 74, 75, 76, 77, 78, 79, 80, 81, 82, 83, 84, 85, 86, 87, 88, 89, 90, 91, 92, 93, 94, 95, 96, 97, 98, 99, 100, 101, 102, 103, 104, 105, 106, 107, 154, 155, 156, 157, 158, 159, 160, 161, 162, 163, 164, 165, 166, 167, 168, 169, 170, 171] (by decide +kernel) (by decide +kernel)) (goodIn_sub (fun _ h => List.mem_cons_of_mem _ (List.mem_append_left _ (List.mem_append_left _ (List.mem_append_right _ h)))) (by decide +kernel))) (goodIn_sub (fun _ h => List.mem_cons_of_mem _ (List.mem_append_right _ h)) (by decide +kernel))) (goodIn_sub (fun _ h => List.mem_cons_of_mem _ (List.mem_append_left _ (List.mem_append_right _ h))) (by decide +kernel))
set_option maxRecDepth 20000 in
theorem gL_does_X1_order : GoodIn wsL_does (wsV RL 38 RX1 yX1_order wsX1_order) := goodIn_app (goodIn_of _ (by decide +kernel)) ggL_does_X1_order
set_option maxRecDepth 20000 in
theorem ggL_does_X1_plug : GoodIn wsL_does wsX1_plug := goodIn_ca (goodIn_ca (goodIn_r _ [111, 9, 10, 112, 32, 33, 7, 34, 35, 36, 113, 114, 115, 116, 12, 13, 47, 60, 117, 118, 119, 120, 154, 155, 156, 157, 158, 159, 160, 161, 162, 163, 164, 165, 166, 167, 168, 169, 170, 171] (by decide +kernel) (by decide +kernel)) (goodIn_sub (fun _ h => List.mem_cons_of_mem _ (List.mem_append_left _ (List.mem_append_left _ (List.mem_append_right _ h)))) (by decide +kernel))) (goodIn_sub (fun _ h => List.mem_cons_of_mem _ (List.mem_append_right _ h)) (by decide +kernel))
set_option maxRecDepth 20000 in
theorem gL_does_X1_plug : GoodIn wsL_does (wsV RL 42 RX1 yX1_plug wsX1_plug) := goodIn_app (goodIn_of _ (by decide +kernel)) ggL_does_X1_plug
set_option maxRecDepth 20000 in
theorem ggL_does_X1_advance : GoodIn wsL_does wsX1_advance := goodIn_ca (goodIn_ca (goodIn_r _ [124, 9, 10, 11, 14, 15, 7, 16, 17, 18, 125, 126, 127, 128, 129, 130, 131, 132, 112, 54, 133, 134, 135, 136, 12, 13, 47, 137, 138, 139, 140, 141, 48, 142, 143, 144, 145, 60, 55, 146, 147, 148, 149, 117, 118, 119, 120, 150, 151, 152, 22, 153, 66, 65, 88, 154, 155, 156, 157, 158, 159, 160, 161, 162, 163, 164, 165, 166, 167, 168, 169, 170, 171] (by decide +kernel) (by decide +kernel)) (goodIn_sub (fun _ h => List.mem_cons_of_mem _ (List.mem_append_left _ (List.mem_append_left _ (List.mem_append_right _ h)))) (by decide +kernel))) (goodIn_sub (fun _ h => List.mem_cons_of_mem _ (List.mem_append_left _ (List.mem_append_right _ h))) (by decide +kernel))
set_option maxRecDepth 20000 in
theorem gL_does_X1_advance : GoodIn wsL_does (wsV RL 46 RX1 yX1_advance wsX1_advance) := goodIn_app (goodIn_of _ (by decide +kernel)) ggL_does_X1_advance
theorem dL_does_0 : decode cL_does 0 = .ok (.iload_n 1, 1) := by decide +kernel
theorem dL_does_1 : decode cL_does 1 = .ok (.ifCond .ne 14, 3) := by decide +kernel
theorem dL_does_4 : decode cL_does 4 = .ok (.aload_n 0, 1) := by decide +kernel
theorem dL_does_5 : decode cL_does 5 = .ok (.iload_n 2, 1) := by decide +kernel
theorem dL_does_6 : decode cL_does 6 = .ok (.iload_n 3, 1) := by decide +kernel
theorem dL_does_7 : decode cL_does 7 = .ok (.iload 4, 2) := by decide +kernel
theorem dL_does_9 : decode cL_does 9 = .ok (.invokevirtual 32, 3) := by decide +kernel
theorem dL_does_12 : decode cL_does 12 = .ok (.goto 42, 3) := by decide +kernel
theorem dL_does_15 : decode cL_does 15 = .ok (.iload_n 1, 1) := by decide +kernel
theorem dL_does_16 : decode cL_does 16 = .ok (.iconst 1, 1) := by decide +kernel
theorem dL_does_17 : decode cL_does 17 = .ok (.if_icmp .ne 18, 3) := by decide +kernel
theorem dL_does_20 : decode cL_does 20 = .ok (.aload_n 0, 1) := by decide +kernel
theorem dL_does_21 : decode cL_does 21 = .ok (.iload_n 2, 1) := by decide +kernel
theorem dL_does_22 : decode cL_does 22 = .ok (.iload_n 3, 1) := by decide +kernel
theorem dL_does_23 : decode cL_does 23 = .ok (.iload 4, 2) := by decide +kernel
theorem dL_does_25 : decode cL_does 25 = .ok (.iload 5, 2) := by decide +kernel
theorem dL_does_27 : decode cL_does 27 = .ok (.iload 6, 2) := by decide +kernel
theorem dL_does_29 : decode cL_does 29 = .ok (.invokevirtual 38, 3) := by decide +kernel
theorem dL_does_32 : decode cL_does 32 = .ok (.goto 22, 3) := by decide +kernel
theorem dL_does_35 : decode cL_does 35 = .ok (.iload_n 1, 1) := by decide +kernel
theorem dL_does_36 : decode cL_does 36 = .ok (.iconst 2, 1) := by decide +kernel
theorem dL_does_37 : decode cL_does 37 = .ok (.if_icmp .ne 12, 3) := by decide +kernel
theorem dL_does_40 : decode cL_does 40 = .ok (.aload_n 0, 1) := by decide +kernel
theorem dL_does_41 : decode cL_does 41 = .ok (.iload_n 2, 1) := by decide +kernel
theorem dL_does_42 : decode cL_does 42 = .ok (.iload_n 3, 1) := by decide +kernel
theorem dL_does_43 : decode cL_does 43 = .ok (.invokevirtual 42, 3) := by decide +kernel
theorem dL_does_46 : decode cL_does 46 = .ok (.goto 8, 3) := by decide +kernel
theorem dL_does_49 : decode cL_does 49 = .ok (.aload_n 0, 1) := by decide +kernel
theorem dL_does_50 : decode cL_does 50 = .ok (.iload_n 2, 1) := by decide +kernel
theorem dL_does_51 : decode cL_does 51 = .ok (.invokevirtual 46, 3) := by decide +kernel
theorem dL_does_54 : decode cL_does 54 = .ok (.ireturn, 1) := by decide +kernel
theorem dL_does_55 : decode cL_does 55 = .ok (.astore 7, 2) := by decide +kernel
theorem dL_does_57 : decode cL_does 57 = .ok (.bipush (-11), 2) := by decide +kernel
theorem dL_does_59 : decode cL_does 59 = .ok (.ireturn, 1) := by decide +kernel
theorem dL_does_60 : decode cL_does 60 = .ok (.astore 7, 2) := by decide +kernel
theorem dL_does_62 : decode cL_does 62 = .ok (.bipush (-12), 2) := by decide +kernel
theorem dL_does_64 : decode cL_does 64 = .ok (.ireturn, 1) := by decide +kernel
theorem dL_does_65 : decode cL_does 65 = .ok (.astore 7, 2) := by decide +kernel
theorem dL_does_67 : decode cL_does 67 = .ok (.bipush (-13), 2) := by decide +kernel
theorem dL_does_69 : decode cL_does 69 = .ok (.ireturn, 1) := by decide +kernel
set_option maxRecDepth 20000 in
theorem ggL_isDepot_X1_minute : GoodIn wsL_isDepot wsX1_minute := goodIn_r _ [5, 6, 97, 98, 99, 100, 101, 102, 103, 104, 105, 106, 107, 108] (by decide +kernel) (by decide +kernel)
set_option maxRecDepth 20000 in
theorem gL_isDepot_X1_minute : GoodIn wsL_isDepot (wsV RL 56 RX1 yX1_minute wsX1_minute) := goodIn_app (goodIn_of _ (by decide +kernel)) ggL_isDepot_X1_minute
set_option maxRecDepth 20000 in
theorem ggL_isDepot_X1_leader : GoodIn wsL_isDepot wsX1_leader := goodIn_r _ [10, 6, 11, 12, 97, 98, 99, 100, 101, 102, 103, 104, 105, 106, 107, 108] (by decide +kernel) (by decide +kernel)
set_option maxRecDepth 20000 in
theorem gL_isDepot_X1_leader : GoodIn wsL_isDepot (wsV RL 60 RX1 yX1_leader wsX1_leader) := goodIn_app (goodIn_of _ (by decide +kernel)) ggL_isDepot_X1_leader
set_option maxRecDepth 20000 in
theorem ggL_isDepot_L_leader : GoodIn wsL_isDepot wsL_leader := goodIn_r _ [16] (by decide +kernel) (by decide +kernel)
set_option maxRecDepth 20000 in
theorem gL_isDepot_L_leader : GoodIn wsL_isDepot (va_wsS RL 63 yL_leader wsL_leader) := goodIn_app (goodIn_of _ (by decide +kernel)) ggL_isDepot_L_leader
set_option maxRecDepth 20000 in
theorem ggL_isDepot_X1_runs : GoodIn wsL_isDepot wsX1_runs := goodIn_r _ [20, 21, 97, 98, 99, 100, 101, 102, 103, 104, 105, 106, 107, 108] (by decide +kernel) (by decide +kernel)
set_option maxRecDepth 20000 in
theorem gL_isDepot_X1_runs : GoodIn wsL_isDepot (wsV RL 66 RX1 yX1_runs wsX1_runs) := goodIn_app (goodIn_of _ (by decide +kernel)) ggL_isDepot_X1_runs
set_option maxRecDepth 20000 in
theorem ggL_isDepot_X1_orders : GoodIn wsL_isDepot wsX1_orders := goodIn_r _ [25, 26, 97, 98, 99, 100, 101, 102, 103, 104, 105, 106, 107, 108] (by decide +kernel) (by decide +kernel)
set_option maxRecDepth 20000 in
theorem gL_isDepot_X1_orders : GoodIn wsL_isDepot (wsV RL 69 RX1 yX1_orders wsX1_orders) := goodIn_app (goodIn_of _ (by decide +kernel)) ggL_isDepot_X1_orders
set_option maxRecDepth 20000 in
theorem ggL_isDepot_X1_stateOf : GoodIn wsL_isDepot wsX1_stateOf := goodIn_ca (goodIn_r _ [30, 21, 31, 32, 33, 34, 4, 35, 36, 37, 97, 98, 99, 100, 101, 102, 103, 104, 105, 106, 107, 108, 109, 110, 111, 112, 113, 114] (by decide +kernel) (by decide +kernel)) (goodIn_sub (fun _ h => List.mem_cons_of_mem _ (List.mem_append_right _ h)) (by decide +kernel))
set_option maxRecDepth 20000 in
theorem gL_isDepot_X1_stateOf : GoodIn wsL_isDepot (wsV RL 72 RX1 yX1_stateOf wsX1_stateOf) := goodIn_app (goodIn_of _ (by decide +kernel)) ggL_isDepot_X1_stateOf
set_option maxRecDepth 20000 in
theorem ggL_isDepot_X1_busOf : GoodIn wsL_isDepot wsX1_busOf := goodIn_ca (goodIn_r _ [41, 21, 31, 42, 33, 34, 4, 35, 36, 37, 97, 98, 99, 100, 101, 102, 103, 104, 105, 106, 107, 108, 109, 110, 111, 112, 113, 114] (by decide +kernel) (by decide +kernel)) (goodIn_sub (fun _ h => List.mem_cons_of_mem _ (List.mem_append_right _ h)) (by decide +kernel))
set_option maxRecDepth 20000 in
theorem gL_isDepot_X1_busOf : GoodIn wsL_isDepot (wsV RL 75 RX1 yX1_busOf wsX1_busOf) := goodIn_app (goodIn_of _ (by decide +kernel)) ggL_isDepot_X1_busOf
set_option maxRecDepth 20000 in
theorem ggL_isDepot_X1_driverOf : GoodIn wsL_isDepot wsX1_driverOf := goodIn_ca (goodIn_r _ [46, 21, 31, 47, 33, 34, 4, 35, 36, 37, 97, 98, 99, 100, 101, 102, 103, 104, 105, 106, 107, 108, 109, 110, 111, 112, 113, 114] (by decide +kernel) (by decide +kernel)) (goodIn_sub (fun _ h => List.mem_cons_of_mem _ (List.mem_append_right _ h)) (by decide +kernel))
set_option maxRecDepth 20000 in
theorem gL_isDepot_X1_driverOf : GoodIn wsL_isDepot (wsV RL 78 RX1 yX1_driverOf wsX1_driverOf) := goodIn_app (goodIn_of _ (by decide +kernel)) ggL_isDepot_X1_driverOf
set_option maxRecDepth 20000 in
theorem ggL_isDepot_X1_charge : GoodIn wsL_isDepot wsX1_charge := goodIn_ca (goodIn_r _ [51, 52, 33, 34, 4, 35, 36, 37, 97, 98, 99, 100, 101, 102, 103, 104, 105, 106, 107, 108] (by decide +kernel) (by decide +kernel)) (goodIn_sub (fun _ h => List.mem_cons_of_mem _ (List.mem_append_right _ h)) (by decide +kernel))
set_option maxRecDepth 20000 in
theorem gL_isDepot_X1_charge : GoodIn wsL_isDepot (wsV RL 81 RX1 yX1_charge wsX1_charge) := goodIn_app (goodIn_of _ (by decide +kernel)) ggL_isDepot_X1_charge
set_option maxRecDepth 20000 in
theorem ggL_isDepot_X1_promised : GoodIn wsL_isDepot wsX1_promised := goodIn_ca (goodIn_r _ [56, 33, 34, 4, 35, 36, 37, 57, 58, 59, 60, 21, 31, 42, 32, 61, 97, 98, 99, 100, 101, 102, 103, 104, 105, 106, 107, 108, 109, 110, 111, 112, 113, 114] (by decide +kernel) (by decide +kernel)) (goodIn_sub (fun _ h => List.mem_cons_of_mem _ (List.mem_append_right _ h)) (by decide +kernel))
set_option maxRecDepth 20000 in
theorem gL_isDepot_X1_promised : GoodIn wsL_isDepot (wsV RL 84 RX1 yX1_promised wsX1_promised) := goodIn_app (goodIn_of _ (by decide +kernel)) ggL_isDepot_X1_promised
set_option maxRecDepth 20000 in
theorem ggL_isDepot_L_promised : GoodIn wsL_isDepot wsL_promised := goodIn_r _ [64] (by decide +kernel) (by decide +kernel)
set_option maxRecDepth 20000 in
theorem gL_isDepot_L_promised : GoodIn wsL_isDepot (va_wsS RL 7 yL_promised wsL_promised) := goodIn_app (goodIn_of _ (by decide +kernel)) ggL_isDepot_L_promised
set_option maxRecDepth 20000 in
theorem ggL_isDepot_X1_minutesOf : GoodIn wsL_isDepot wsX1_minutesOf := goodIn_ca (goodIn_r _ [68, 33, 34, 4, 35, 36, 37, 69, 70, 71, 72, 21, 31, 73, 74, 75, 76, 77, 78, 79, 80, 81, 82, 83, 84, 85, 86, 87, 88, 97, 98, 99, 100, 101, 102, 103, 104, 105, 106, 107, 108, 109, 110, 111, 112, 113, 114] (by decide +kernel) (by decide +kernel)) (goodIn_sub (fun _ h => List.mem_cons_of_mem _ (List.mem_append_right _ h)) (by decide +kernel))
set_option maxRecDepth 20000 in
theorem gL_isDepot_X1_minutesOf : GoodIn wsL_isDepot (wsV RL 86 RX1 yX1_minutesOf wsX1_minutesOf) := goodIn_app (goodIn_of _ (by decide +kernel)) ggL_isDepot_X1_minutesOf
set_option maxRecDepth 20000 in
theorem ggL_isDepot_L_minutes : GoodIn wsL_isDepot wsL_minutes := goodIn_r _ [91] (by decide +kernel) (by decide +kernel)
set_option maxRecDepth 20000 in
theorem gL_isDepot_L_minutes : GoodIn wsL_isDepot (va_wsS RL 13 yL_minutes wsL_minutes) := goodIn_app (goodIn_of _ (by decide +kernel)) ggL_isDepot_L_minutes
set_option maxRecDepth 20000 in
theorem ggL_isDepot_X1_orderAt : GoodIn wsL_isDepot wsX1_orderAt := goodIn_ca (goodIn_r _ [95, 26, 96, 33, 34, 4, 35, 36, 37, 97, 98, 99, 100, 101, 102, 103, 104, 105, 106, 107, 108] (by decide +kernel) (by decide +kernel)) (goodIn_sub (fun _ h => List.mem_cons_of_mem _ (List.mem_append_right _ h)) (by decide +kernel))
set_option maxRecDepth 20000 in
theorem gL_isDepot_X1_orderAt : GoodIn wsL_isDepot (wsV RL 89 RX1 yX1_orderAt wsX1_orderAt) := goodIn_app (goodIn_of _ (by decide +kernel)) ggL_isDepot_X1_orderAt
theorem dL_isDepot_0 : decode cL_isDepot 0 = .ok (.aload_n 0, 1) := by decide +kernel
theorem dL_isDepot_1 : decode cL_isDepot 1 = .ok (.invokevirtual 56, 3) := by decide +kernel
theorem dL_isDepot_4 : decode cL_isDepot 4 = .ok (.aload_n 1, 1) := by decide +kernel
theorem dL_isDepot_5 : decode cL_isDepot 5 = .ok (.iconst 0, 1) := by decide +kernel
theorem dL_isDepot_6 : decode cL_isDepot 6 = .ok (.iaload, 1) := by decide +kernel
theorem dL_isDepot_7 : decode cL_isDepot 7 = .ok (.if_icmp .ne 38, 3) := by decide +kernel
theorem dL_isDepot_10 : decode cL_isDepot 10 = .ok (.aload_n 0, 1) := by decide +kernel
theorem dL_isDepot_11 : decode cL_isDepot 11 = .ok (.invokevirtual 60, 3) := by decide +kernel
theorem dL_isDepot_14 : decode cL_isDepot 14 = .ok (.aload_n 1, 1) := by decide +kernel
theorem dL_isDepot_15 : decode cL_isDepot 15 = .ok (.invokestatic 63, 3) := by decide +kernel
theorem dL_isDepot_18 : decode cL_isDepot 18 = .ok (.if_icmp .ne 27, 3) := by decide +kernel
theorem dL_isDepot_21 : decode cL_isDepot 21 = .ok (.aload_n 0, 1) := by decide +kernel
theorem dL_isDepot_22 : decode cL_isDepot 22 = .ok (.invokevirtual 66, 3) := by decide +kernel
theorem dL_isDepot_25 : decode cL_isDepot 25 = .ok (.aload_n 1, 1) := by decide +kernel
theorem dL_isDepot_26 : decode cL_isDepot 26 = .ok (.iconst 1, 1) := by decide +kernel
theorem dL_isDepot_27 : decode cL_isDepot 27 = .ok (.iaload, 1) := by decide +kernel
theorem dL_isDepot_28 : decode cL_isDepot 28 = .ok (.if_icmp .ne 17, 3) := by decide +kernel
theorem dL_isDepot_31 : decode cL_isDepot 31 = .ok (.aload_n 0, 1) := by decide +kernel
theorem dL_isDepot_32 : decode cL_isDepot 32 = .ok (.invokevirtual 69, 3) := by decide +kernel
theorem dL_isDepot_35 : decode cL_isDepot 35 = .ok (.aload_n 1, 1) := by decide +kernel
theorem dL_isDepot_36 : decode cL_isDepot 36 = .ok (.iconst 2, 1) := by decide +kernel
theorem dL_isDepot_37 : decode cL_isDepot 37 = .ok (.iaload, 1) := by decide +kernel
theorem dL_isDepot_38 : decode cL_isDepot 38 = .ok (.if_icmp .ne 7, 3) := by decide +kernel
theorem dL_isDepot_41 : decode cL_isDepot 41 = .ok (.iconst 1, 1) := by decide +kernel
theorem dL_isDepot_42 : decode cL_isDepot 42 = .ok (.goto 4, 3) := by decide +kernel
theorem dL_isDepot_45 : decode cL_isDepot 45 = .ok (.iconst 0, 1) := by decide +kernel
theorem dL_isDepot_46 : decode cL_isDepot 46 = .ok (.istore 9, 2) := by decide +kernel
theorem dL_isDepot_48 : decode cL_isDepot 48 = .ok (.iconst 0, 1) := by decide +kernel
theorem dL_isDepot_49 : decode cL_isDepot 49 = .ok (.istore 10, 2) := by decide +kernel
theorem dL_isDepot_51 : decode cL_isDepot 51 = .ok (.iload 10, 2) := by decide +kernel
theorem dL_isDepot_53 : decode cL_isDepot 53 = .ok (.aload_n 1, 1) := by decide +kernel
theorem dL_isDepot_54 : decode cL_isDepot 54 = .ok (.iconst 1, 1) := by decide +kernel
theorem dL_isDepot_55 : decode cL_isDepot 55 = .ok (.iaload, 1) := by decide +kernel
theorem dL_isDepot_56 : decode cL_isDepot 56 = .ok (.if_icmp .ge 66, 3) := by decide +kernel
theorem dL_isDepot_59 : decode cL_isDepot 59 = .ok (.iload 9, 2) := by decide +kernel
theorem dL_isDepot_61 : decode cL_isDepot 61 = .ok (.ifCond .eq 61, 3) := by decide +kernel
theorem dL_isDepot_64 : decode cL_isDepot 64 = .ok (.aload_n 0, 1) := by decide +kernel
theorem dL_isDepot_65 : decode cL_isDepot 65 = .ok (.iload 10, 2) := by decide +kernel
theorem dL_isDepot_67 : decode cL_isDepot 67 = .ok (.invokevirtual 72, 3) := by decide +kernel
theorem dL_isDepot_70 : decode cL_isDepot 70 = .ok (.aload_n 3, 1) := by decide +kernel
theorem dL_isDepot_71 : decode cL_isDepot 71 = .ok (.iload 10, 2) := by decide +kernel
theorem dL_isDepot_73 : decode cL_isDepot 73 = .ok (.iaload, 1) := by decide +kernel
theorem dL_isDepot_74 : decode cL_isDepot 74 = .ok (.if_icmp .ne 39, 3) := by decide +kernel
theorem dL_isDepot_77 : decode cL_isDepot 77 = .ok (.aload_n 0, 1) := by decide +kernel
theorem dL_isDepot_78 : decode cL_isDepot 78 = .ok (.iload 10, 2) := by decide +kernel
theorem dL_isDepot_80 : decode cL_isDepot 80 = .ok (.invokevirtual 75, 3) := by decide +kernel
theorem dL_isDepot_83 : decode cL_isDepot 83 = .ok (.aload 4, 2) := by decide +kernel
theorem dL_isDepot_85 : decode cL_isDepot 85 = .ok (.iload 10, 2) := by decide +kernel
theorem dL_isDepot_87 : decode cL_isDepot 87 = .ok (.iaload, 1) := by decide +kernel
theorem dL_isDepot_88 : decode cL_isDepot 88 = .ok (.iconst 1, 1) := by decide +kernel
theorem dL_isDepot_89 : decode cL_isDepot 89 = .ok (.isub, 1) := by decide +kernel
theorem dL_isDepot_90 : decode cL_isDepot 90 = .ok (.if_icmp .ne 23, 3) := by decide +kernel
theorem dL_isDepot_93 : decode cL_isDepot 93 = .ok (.aload_n 0, 1) := by decide +kernel
theorem dL_isDepot_94 : decode cL_isDepot 94 = .ok (.iload 10, 2) := by decide +kernel
theorem dL_isDepot_96 : decode cL_isDepot 96 = .ok (.invokevirtual 78, 3) := by decide +kernel
theorem dL_isDepot_99 : decode cL_isDepot 99 = .ok (.aload 5, 2) := by decide +kernel
theorem dL_isDepot_101 : decode cL_isDepot 101 = .ok (.iload 10, 2) := by decide +kernel
theorem dL_isDepot_103 : decode cL_isDepot 103 = .ok (.iaload, 1) := by decide +kernel
theorem dL_isDepot_104 : decode cL_isDepot 104 = .ok (.iconst 1, 1) := by decide +kernel
theorem dL_isDepot_105 : decode cL_isDepot 105 = .ok (.isub, 1) := by decide +kernel
theorem dL_isDepot_106 : decode cL_isDepot 106 = .ok (.if_icmp .ne 7, 3) := by decide +kernel
theorem dL_isDepot_109 : decode cL_isDepot 109 = .ok (.iconst 1, 1) := by decide +kernel
theorem dL_isDepot_110 : decode cL_isDepot 110 = .ok (.goto 4, 3) := by decide +kernel
theorem dL_isDepot_113 : decode cL_isDepot 113 = .ok (.iconst 0, 1) := by decide +kernel
theorem dL_isDepot_114 : decode cL_isDepot 114 = .ok (.istore 9, 2) := by decide +kernel
theorem dL_isDepot_116 : decode cL_isDepot 116 = .ok (.iinc 10 1, 3) := by decide +kernel
theorem dL_isDepot_119 : decode cL_isDepot 119 = .ok (.goto (-68), 3) := by decide +kernel
theorem dL_isDepot_122 : decode cL_isDepot 122 = .ok (.iconst 0, 1) := by decide +kernel
theorem dL_isDepot_123 : decode cL_isDepot 123 = .ok (.istore 10, 2) := by decide +kernel
theorem dL_isDepot_125 : decode cL_isDepot 125 = .ok (.iload 10, 2) := by decide +kernel
theorem dL_isDepot_127 : decode cL_isDepot 127 = .ok (.iconst 5, 1) := by decide +kernel
theorem dL_isDepot_128 : decode cL_isDepot 128 = .ok (.if_icmp .ge 99, 3) := by decide +kernel
theorem dL_isDepot_131 : decode cL_isDepot 131 = .ok (.iload 9, 2) := by decide +kernel
theorem dL_isDepot_133 : decode cL_isDepot 133 = .ok (.ifCond .eq 94, 3) := by decide +kernel
theorem dL_isDepot_136 : decode cL_isDepot 136 = .ok (.aload_n 1, 1) := by decide +kernel
theorem dL_isDepot_137 : decode cL_isDepot 137 = .ok (.iconst 0, 1) := by decide +kernel
theorem dL_isDepot_138 : decode cL_isDepot 138 = .ok (.iaload, 1) := by decide +kernel
theorem dL_isDepot_139 : decode cL_isDepot 139 = .ok (.sipush 1440, 3) := by decide +kernel
theorem dL_isDepot_142 : decode cL_isDepot 142 = .ok (.idiv, 1) := by decide +kernel
theorem dL_isDepot_143 : decode cL_isDepot 143 = .ok (.iload 8, 2) := by decide +kernel
theorem dL_isDepot_145 : decode cL_isDepot 145 = .ok (.iload 10, 2) := by decide +kernel
theorem dL_isDepot_147 : decode cL_isDepot 147 = .ok (.iadd, 1) := by decide +kernel
theorem dL_isDepot_148 : decode cL_isDepot 148 = .ok (.iconst 3, 1) := by decide +kernel
theorem dL_isDepot_149 : decode cL_isDepot 149 = .ok (.irem, 1) := by decide +kernel
theorem dL_isDepot_150 : decode cL_isDepot 150 = .ok (.iadd, 1) := by decide +kernel
theorem dL_isDepot_151 : decode cL_isDepot 151 = .ok (.iconst 1, 1) := by decide +kernel
theorem dL_isDepot_152 : decode cL_isDepot 152 = .ok (.isub, 1) := by decide +kernel
theorem dL_isDepot_153 : decode cL_isDepot 153 = .ok (.istore 11, 2) := by decide +kernel
theorem dL_isDepot_155 : decode cL_isDepot 155 = .ok (.aload_n 0, 1) := by decide +kernel
theorem dL_isDepot_156 : decode cL_isDepot 156 = .ok (.iload 10, 2) := by decide +kernel
theorem dL_isDepot_158 : decode cL_isDepot 158 = .ok (.invokevirtual 81, 3) := by decide +kernel
theorem dL_isDepot_161 : decode cL_isDepot 161 = .ok (.aload 6, 2) := by decide +kernel
theorem dL_isDepot_163 : decode cL_isDepot 163 = .ok (.iconst 2, 1) := by decide +kernel
theorem dL_isDepot_164 : decode cL_isDepot 164 = .ok (.iload 10, 2) := by decide +kernel
theorem dL_isDepot_166 : decode cL_isDepot 166 = .ok (.imul, 1) := by decide +kernel
theorem dL_isDepot_167 : decode cL_isDepot 167 = .ok (.iaload, 1) := by decide +kernel
theorem dL_isDepot_168 : decode cL_isDepot 168 = .ok (.if_icmp .ne 50, 3) := by decide +kernel
theorem dL_isDepot_171 : decode cL_isDepot 171 = .ok (.aload_n 0, 1) := by decide +kernel
theorem dL_isDepot_172 : decode cL_isDepot 172 = .ok (.iload 10, 2) := by decide +kernel
theorem dL_isDepot_174 : decode cL_isDepot 174 = .ok (.invokevirtual 84, 3) := by decide +kernel
theorem dL_isDepot_177 : decode cL_isDepot 177 = .ok (.aload_n 1, 1) := by decide +kernel
theorem dL_isDepot_178 : decode cL_isDepot 178 = .ok (.aload_n 2, 1) := by decide +kernel
theorem dL_isDepot_179 : decode cL_isDepot 179 = .ok (.aload_n 3, 1) := by decide +kernel
theorem dL_isDepot_180 : decode cL_isDepot 180 = .ok (.aload 4, 2) := by decide +kernel
theorem dL_isDepot_182 : decode cL_isDepot 182 = .ok (.iload 10, 2) := by decide +kernel
theorem dL_isDepot_184 : decode cL_isDepot 184 = .ok (.invokestatic 7, 3) := by decide +kernel
theorem dL_isDepot_187 : decode cL_isDepot 187 = .ok (.if_icmp .ne 31, 3) := by decide +kernel
theorem dL_isDepot_190 : decode cL_isDepot 190 = .ok (.aload_n 0, 1) := by decide +kernel
theorem dL_isDepot_191 : decode cL_isDepot 191 = .ok (.iload 10, 2) := by decide +kernel
theorem dL_isDepot_193 : decode cL_isDepot 193 = .ok (.iload 11, 2) := by decide +kernel
theorem dL_isDepot_195 : decode cL_isDepot 195 = .ok (.invokevirtual 86, 3) := by decide +kernel
theorem dL_isDepot_198 : decode cL_isDepot 198 = .ok (.aload_n 1, 1) := by decide +kernel
theorem dL_isDepot_199 : decode cL_isDepot 199 = .ok (.aload_n 2, 1) := by decide +kernel
theorem dL_isDepot_200 : decode cL_isDepot 200 = .ok (.aload_n 3, 1) := by decide +kernel
theorem dL_isDepot_201 : decode cL_isDepot 201 = .ok (.aload 5, 2) := by decide +kernel
theorem dL_isDepot_203 : decode cL_isDepot 203 = .ok (.iload 10, 2) := by decide +kernel
theorem dL_isDepot_205 : decode cL_isDepot 205 = .ok (.iload 11, 2) := by decide +kernel
theorem dL_isDepot_207 : decode cL_isDepot 207 = .ok (.iconst (-1), 1) := by decide +kernel
theorem dL_isDepot_208 : decode cL_isDepot 208 = .ok (.invokestatic 13, 3) := by decide +kernel
theorem dL_isDepot_211 : decode cL_isDepot 211 = .ok (.if_icmp .ne 7, 3) := by decide +kernel
theorem dL_isDepot_214 : decode cL_isDepot 214 = .ok (.iconst 1, 1) := by decide +kernel
theorem dL_isDepot_215 : decode cL_isDepot 215 = .ok (.goto 4, 3) := by decide +kernel
theorem dL_isDepot_218 : decode cL_isDepot 218 = .ok (.iconst 0, 1) := by decide +kernel
theorem dL_isDepot_219 : decode cL_isDepot 219 = .ok (.istore 9, 2) := by decide +kernel
theorem dL_isDepot_221 : decode cL_isDepot 221 = .ok (.iinc 10 1, 3) := by decide +kernel
theorem dL_isDepot_224 : decode cL_isDepot 224 = .ok (.goto (-99), 3) := by decide +kernel
theorem dL_isDepot_227 : decode cL_isDepot 227 = .ok (.iconst 0, 1) := by decide +kernel
theorem dL_isDepot_228 : decode cL_isDepot 228 = .ok (.istore 10, 2) := by decide +kernel
theorem dL_isDepot_230 : decode cL_isDepot 230 = .ok (.iload 10, 2) := by decide +kernel
theorem dL_isDepot_232 : decode cL_isDepot 232 = .ok (.aload_n 1, 1) := by decide +kernel
theorem dL_isDepot_233 : decode cL_isDepot 233 = .ok (.iconst 2, 1) := by decide +kernel
theorem dL_isDepot_234 : decode cL_isDepot 234 = .ok (.iaload, 1) := by decide +kernel
theorem dL_isDepot_235 : decode cL_isDepot 235 = .ok (.if_icmp .ge 35, 3) := by decide +kernel
theorem dL_isDepot_238 : decode cL_isDepot 238 = .ok (.iload 9, 2) := by decide +kernel
theorem dL_isDepot_240 : decode cL_isDepot 240 = .ok (.ifCond .eq 30, 3) := by decide +kernel
theorem dL_isDepot_243 : decode cL_isDepot 243 = .ok (.aload_n 0, 1) := by decide +kernel
theorem dL_isDepot_244 : decode cL_isDepot 244 = .ok (.iload 10, 2) := by decide +kernel
theorem dL_isDepot_246 : decode cL_isDepot 246 = .ok (.invokevirtual 89, 3) := by decide +kernel
theorem dL_isDepot_249 : decode cL_isDepot 249 = .ok (.aload 7, 2) := by decide +kernel
theorem dL_isDepot_251 : decode cL_isDepot 251 = .ok (.iload 10, 2) := by decide +kernel
theorem dL_isDepot_253 : decode cL_isDepot 253 = .ok (.iaload, 1) := by decide +kernel
theorem dL_isDepot_254 : decode cL_isDepot 254 = .ok (.if_icmp .ne 7, 3) := by decide +kernel
theorem dL_isDepot_257 : decode cL_isDepot 257 = .ok (.iconst 1, 1) := by decide +kernel
theorem dL_isDepot_258 : decode cL_isDepot 258 = .ok (.goto 4, 3) := by decide +kernel
theorem dL_isDepot_261 : decode cL_isDepot 261 = .ok (.iconst 0, 1) := by decide +kernel
theorem dL_isDepot_262 : decode cL_isDepot 262 = .ok (.istore 9, 2) := by decide +kernel
theorem dL_isDepot_264 : decode cL_isDepot 264 = .ok (.iinc 10 1, 3) := by decide +kernel
theorem dL_isDepot_267 : decode cL_isDepot 267 = .ok (.goto (-37), 3) := by decide +kernel
theorem dL_isDepot_270 : decode cL_isDepot 270 = .ok (.iload 9, 2) := by decide +kernel
theorem dL_isDepot_272 : decode cL_isDepot 272 = .ok (.ireturn, 1) := by decide +kernel
set_option maxRecDepth 20000 in
theorem ggL_law_X1_init : GoodIn wsL_law wsX1_init := goodIn_r _ [8, 9, 10, 11, 12, 13, 3, 14, 15, 16, 17, 18, 19, 20, 21, 22, 23, 24, 25, 26, 27, 28, 29, 30, 31, 32, 33, 293, 294, 295, 296, 297, 298, 299, 300, 301, 302, 303, 304, 305, 306, 307, 308, 309, 310] (by decide +kernel) (by decide +kernel)
set_option maxRecDepth 20000 in
theorem gL_law_X1_init : GoodIn wsL_law (wsX1_init) := ggL_law_X1_init
set_option maxRecDepth 20000 in
theorem ggL_law_L_isDepot : GoodIn wsL_law wsL_isDepot := goodIn_ca (goodIn_r _ [37, 38, 39, 40, 2, 41, 21, 42, 43, 44, 45, 25, 24, 46, 47, 36, 48, 49, 50, 51, 52, 22, 53, 54, 55, 56, 23, 57, 58, 59, 60, 13, 61, 62, 63, 64, 65, 66, 67, 68, 69, 70, 71, 72, 73, 74, 75, 76, 77, 78, 79, 80, 14, 81, 82, 83, 84, 85, 86, 87, 88, 89, 90, 91, 92, 93, 94, 95, 96, 97, 98, 99, 100, 101, 102, 103, 27, 104, 33, 105, 106, 107, 108, 109, 110, 111, 112, 113, 114, 115, 116, 117, 118, 119, 120, 121, 19, 293, 294, 295, 296, 297, 298, 299, 300, 301, 302, 303, 304, 305, 306, 307, 308, 309, 310] (by decide +kernel) (by decide +kernel)) (goodIn_sub (fun _ h => List.mem_append_left _ (List.mem_append_left _ (List.mem_append_right _ h))) (by decide +kernel))
set_option maxRecDepth 20000 in
theorem gL_law_L_isDepot : GoodIn wsL_law (va_wsS RL 93 yL_isDepot wsL_isDepot) := goodIn_app (goodIn_of _ (by decide +kernel)) ggL_law_L_isDepot
set_option maxRecDepth 20000 in
theorem ggL_law_L_does : GoodIn wsL_law wsL_does := goodIn_ca (goodIn_ca (goodIn_ca (goodIn_r _ [124, 125, 126, 127, 128, 129, 130, 2, 131, 132, 133, 21, 22, 13, 134, 135, 136, 137, 138, 139, 140, 141, 27, 142, 109, 114, 143, 144, 145, 146, 147, 20, 62, 63, 64, 65, 66, 148, 43, 44, 45, 25, 24, 149, 150, 151, 152, 61, 153, 154, 155, 156, 157, 16, 14, 89, 85, 86, 87, 88, 71, 158, 159, 160, 161, 32, 31, 162, 163, 164, 165, 166, 167, 168, 169, 17, 170, 106, 107, 108, 97, 98, 99, 100, 101, 102, 103, 104, 33, 105, 110, 111, 112, 113, 171, 172, 173, 174, 175, 176, 177, 178, 179, 180, 181, 182, 23, 19, 183, 184, 185, 186, 18, 187, 188, 189, 190, 191, 192, 193, 194, 195, 196, 197, 198, 199, 200, 201, 202, 203, 204, 205, 206, 207, 208, 209, 210, 211, 212, 213, 214, 215, 216, 217, 218, 219, 220, 221, 222, 223, 224, 225, 226, 227, 293, 294, 295, 296, 297, 298, 299, 300, 301, 302, 303, 304, 305, 306, 307, 308, 309, 310] (by decide +kernel) (by decide +kernel)) (goodIn_sub (fun _ h => List.mem_append_left _ (List.mem_append_right _ h)) (by decide +kernel))) (goodIn_sub (fun _ h => List.mem_append_right _ h) (by decide +kernel))) (goodIn_sub (fun _ h => List.mem_append_left _ (List.mem_append_left _ (List.mem_append_right _ h))) (by decide +kernel))
set_option maxRecDepth 20000 in
theorem gL_law_L_does : GoodIn wsL_law (va_wsS RL 99 yL_does wsL_does) := goodIn_app (goodIn_of _ (by decide +kernel)) ggL_law_L_does
set_option maxRecDepth 20000 in
theorem ggL_law_L_leader : GoodIn wsL_law wsL_leader := goodIn_r _ [48] (by decide +kernel) (by decide +kernel)
set_option maxRecDepth 20000 in
theorem gL_law_L_leader : GoodIn wsL_law (va_wsS RL 63 yL_leader wsL_leader) := goodIn_app (goodIn_of _ (by decide +kernel)) ggL_law_L_leader
set_option maxRecDepth 20000 in
theorem ggL_law_X1_lead : GoodIn wsL_law wsX1_lead := goodIn_ca (goodIn_ca (goodIn_r _ [231, 24, 21, 25, 62, 63, 2, 64, 65, 66, 134, 135, 136, 137, 138, 148, 43, 44, 45, 293, 294, 295, 296, 297, 298, 299, 300, 301, 302, 303, 304] (by decide +kernel) (by decide +kernel)) (goodIn_sub (fun _ h => List.mem_append_left _ (List.mem_append_left _ (List.mem_append_right _ h))) (by decide +kernel))) (goodIn_sub (fun _ h => List.mem_append_right _ h) (by decide +kernel))
set_option maxRecDepth 20000 in
theorem gL_law_X1_lead : GoodIn wsL_law (wsV RL 103 RX1 yX1_lead wsX1_lead) := goodIn_app (goodIn_of _ (by decide +kernel)) ggL_law_X1_lead
set_option maxRecDepth 20000 in
theorem ggL_law_L_fitsBus : GoodIn wsL_law wsL_fitsBus := goodIn_r _ [234, 90, 91, 36, 92] (by decide +kernel) (by decide +kernel)
set_option maxRecDepth 20000 in
theorem gL_law_L_fitsBus : GoodIn wsL_law (va_wsS RL 25 yL_fitsBus wsL_fitsBus) := goodIn_app (goodIn_of _ (by decide +kernel)) ggL_law_L_fitsBus
set_option maxRecDepth 20000 in
theorem ggL_law_L_fitsDriver : GoodIn wsL_law wsL_fitsDriver := goodIn_r _ [237, 115, 116, 36, 117] (by decide +kernel) (by decide +kernel)
set_option maxRecDepth 20000 in
theorem gL_law_L_fitsDriver : GoodIn wsL_law (va_wsS RL 29 yL_fitsDriver wsL_fitsDriver) := goodIn_app (goodIn_of _ (by decide +kernel)) ggL_law_L_fitsDriver
set_option maxRecDepth 20000 in
theorem ggL_law_L_breaks : GoodIn wsL_law wsL_breaks := goodIn_r _ [240, 241, 242, 36, 243, 244, 245, 246, 232, 233, 234, 90, 91, 92] (by decide +kernel) (by decide +kernel)
set_option maxRecDepth 20000 in
theorem gL_law_L_breaks : GoodIn wsL_law (va_wsS RL 107 yL_breaks wsL_breaks) := goodIn_app (goodIn_of _ (by decide +kernel)) ggL_law_L_breaks
set_option maxRecDepth 20000 in
theorem ggL_law_X1_breaks : GoodIn wsL_law wsX1_breaks := goodIn_ca (goodIn_r _ [250, 16, 62, 63, 2, 64, 65, 66, 191, 192, 193, 194, 18, 251, 252, 253, 254, 22, 13, 61, 71, 224, 225, 226, 27, 227, 31, 32, 33, 255, 256, 257, 258, 259, 260, 261, 262, 89, 263, 264, 265, 266, 154, 155, 156, 157, 14, 85, 86, 87, 88, 158, 159, 160, 161, 162, 163, 164, 165, 109, 114, 220, 221, 222, 223, 293, 294, 295, 296, 297, 298, 299, 300, 301, 302, 303, 304, 305, 306, 307, 308, 309, 310] (by decide +kernel) (by decide +kernel)) (goodIn_sub (fun _ h => List.mem_append_left _ (List.mem_append_left _ (List.mem_append_right _ h))) (by decide +kernel))
set_option maxRecDepth 20000 in
theorem gL_law_X1_breaks : GoodIn wsL_law (wsV RL 111 RX1 yX1_breaks wsX1_breaks) := goodIn_app (goodIn_of _ (by decide +kernel)) ggL_law_X1_breaks
set_option maxRecDepth 20000 in
theorem ggL_law_L_ails : GoodIn wsL_law wsL_ails := goodIn_r _ [269, 244, 245, 36, 246, 235, 236, 237, 115, 116, 117] (by decide +kernel) (by decide +kernel)
set_option maxRecDepth 20000 in
theorem gL_law_L_ails : GoodIn wsL_law (va_wsS RL 114 yL_ails wsL_ails) := goodIn_app (goodIn_of _ (by decide +kernel)) ggL_law_L_ails
set_option maxRecDepth 20000 in
theorem ggL_law_X1_ails : GoodIn wsL_law wsX1_ails := goodIn_ca (goodIn_r _ [273, 17, 62, 63, 2, 64, 65, 66, 274, 275, 276, 277, 22, 13, 61, 76, 224, 225, 226, 27, 227, 31, 32, 33, 278, 279, 280, 281, 282, 283, 284, 285, 286, 287, 288, 289, 166, 167, 168, 169, 170, 106, 107, 108, 109, 97, 98, 99, 100, 101, 102, 103, 104, 105, 110, 111, 112, 113, 114, 171, 172, 173, 174, 293, 294, 295, 296, 297, 298, 299, 300, 301, 302, 303, 304, 305, 306, 307, 308, 309, 310] (by decide +kernel) (by decide +kernel)) (goodIn_sub (fun _ h => List.mem_append_left _ (List.mem_append_left _ (List.mem_append_right _ h))) (by decide +kernel))
set_option maxRecDepth 20000 in
theorem gL_law_X1_ails : GoodIn wsL_law (wsV RL 118 RX1 yX1_ails wsX1_ails) := goodIn_app (goodIn_of _ (by decide +kernel)) ggL_law_X1_ails
set_option maxRecDepth 20000 in
theorem ggL_law_L_leaves : GoodIn wsL_law wsL_leaves := goodIn_r _ [243] (by decide +kernel) (by decide +kernel)
set_option maxRecDepth 20000 in
theorem gL_law_L_leaves : GoodIn wsL_law (va_wsS RL 17 yL_leaves wsL_leaves) := goodIn_app (goodIn_of _ (by decide +kernel)) ggL_law_L_leaves
set_option maxRecDepth 20000 in
theorem ggL_law_L_passes : GoodIn wsL_law wsL_passes := goodIn_r _ [292, 241, 242, 36, 243, 244, 245, 246] (by decide +kernel) (by decide +kernel)
set_option maxRecDepth 20000 in
theorem gL_law_L_passes : GoodIn wsL_law (va_wsS RL 120 yL_passes wsL_passes) := goodIn_app (goodIn_of _ (by decide +kernel)) ggL_law_L_passes
theorem dL_law_0 : decode cL_law 0 = .ok (.new 33, 3) := by decide +kernel
theorem dL_law_3 : decode cL_law 3 = .ok (.dup, 1) := by decide +kernel
theorem dL_law_4 : decode cL_law 4 = .ok (.invokespecial 92, 3) := by decide +kernel
theorem dL_law_7 : decode cL_law 7 = .ok (.astore_n 1, 1) := by decide +kernel
theorem dL_law_8 : decode cL_law 8 = .ok (.bipush 60, 2) := by decide +kernel
theorem dL_law_10 : decode cL_law 10 = .ok (.newarray .int, 2) := by decide +kernel
theorem dL_law_12 : decode cL_law 12 = .ok (.astore_n 2, 1) := by decide +kernel
theorem dL_law_13 : decode cL_law 13 = .ok (.bipush 20, 2) := by decide +kernel
theorem dL_law_15 : decode cL_law 15 = .ok (.newarray .int, 2) := by decide +kernel
theorem dL_law_17 : decode cL_law 17 = .ok (.astore_n 3, 1) := by decide +kernel
theorem dL_law_18 : decode cL_law 18 = .ok (.bipush 20, 2) := by decide +kernel
theorem dL_law_20 : decode cL_law 20 = .ok (.newarray .int, 2) := by decide +kernel
theorem dL_law_22 : decode cL_law 22 = .ok (.astore 4, 2) := by decide +kernel
theorem dL_law_24 : decode cL_law 24 = .ok (.bipush 20, 2) := by decide +kernel
theorem dL_law_26 : decode cL_law 26 = .ok (.newarray .int, 2) := by decide +kernel
theorem dL_law_28 : decode cL_law 28 = .ok (.astore 5, 2) := by decide +kernel
theorem dL_law_30 : decode cL_law 30 = .ok (.bipush 10, 2) := by decide +kernel
theorem dL_law_32 : decode cL_law 32 = .ok (.newarray .int, 2) := by decide +kernel
theorem dL_law_34 : decode cL_law 34 = .ok (.astore 6, 2) := by decide +kernel
theorem dL_law_36 : decode cL_law 36 = .ok (.iconst 5, 1) := by decide +kernel
theorem dL_law_37 : decode cL_law 37 = .ok (.newarray .int, 2) := by decide +kernel
theorem dL_law_39 : decode cL_law 39 = .ok (.astore 7, 2) := by decide +kernel
theorem dL_law_41 : decode cL_law 41 = .ok (.iconst 2, 1) := by decide +kernel
theorem dL_law_42 : decode cL_law 42 = .ok (.newarray .int, 2) := by decide +kernel
theorem dL_law_44 : decode cL_law 44 = .ok (.astore 8, 2) := by decide +kernel
theorem dL_law_46 : decode cL_law 46 = .ok (.bipush 60, 2) := by decide +kernel
theorem dL_law_48 : decode cL_law 48 = .ok (.newarray .int, 2) := by decide +kernel
theorem dL_law_50 : decode cL_law 50 = .ok (.astore 9, 2) := by decide +kernel
theorem dL_law_52 : decode cL_law 52 = .ok (.bipush 60, 2) := by decide +kernel
theorem dL_law_54 : decode cL_law 54 = .ok (.newarray .int, 2) := by decide +kernel
theorem dL_law_56 : decode cL_law 56 = .ok (.astore 10, 2) := by decide +kernel
theorem dL_law_58 : decode cL_law 58 = .ok (.iconst 5, 1) := by decide +kernel
theorem dL_law_59 : decode cL_law 59 = .ok (.newarray .int, 2) := by decide +kernel
theorem dL_law_61 : decode cL_law 61 = .ok (.astore 11, 2) := by decide +kernel
theorem dL_law_63 : decode cL_law 63 = .ok (.iconst 0, 1) := by decide +kernel
theorem dL_law_64 : decode cL_law 64 = .ok (.istore 12, 2) := by decide +kernel
theorem dL_law_66 : decode cL_law 66 = .ok (.iload 12, 2) := by decide +kernel
theorem dL_law_68 : decode cL_law 68 = .ok (.iconst 5, 1) := by decide +kernel
theorem dL_law_69 : decode cL_law 69 = .ok (.if_icmp .ge 18, 3) := by decide +kernel
theorem dL_law_72 : decode cL_law 72 = .ok (.aload 6, 2) := by decide +kernel
theorem dL_law_74 : decode cL_law 74 = .ok (.iconst 2, 1) := by decide +kernel
theorem dL_law_75 : decode cL_law 75 = .ok (.iload 12, 2) := by decide +kernel
theorem dL_law_77 : decode cL_law 77 = .ok (.imul, 1) := by decide +kernel
theorem dL_law_78 : decode cL_law 78 = .ok (.bipush 100, 2) := by decide +kernel
theorem dL_law_80 : decode cL_law 80 = .ok (.iastore, 1) := by decide +kernel
theorem dL_law_81 : decode cL_law 81 = .ok (.iinc 12 1, 3) := by decide +kernel
theorem dL_law_84 : decode cL_law 84 = .ok (.goto (-18), 3) := by decide +kernel
theorem dL_law_87 : decode cL_law 87 = .ok (.aload_n 1, 1) := by decide +kernel
theorem dL_law_88 : decode cL_law 88 = .ok (.aload 11, 2) := by decide +kernel
theorem dL_law_90 : decode cL_law 90 = .ok (.aload_n 2, 1) := by decide +kernel
theorem dL_law_91 : decode cL_law 91 = .ok (.aload_n 3, 1) := by decide +kernel
theorem dL_law_92 : decode cL_law 92 = .ok (.aload 4, 2) := by decide +kernel
theorem dL_law_94 : decode cL_law 94 = .ok (.aload 5, 2) := by decide +kernel
theorem dL_law_96 : decode cL_law 96 = .ok (.aload 6, 2) := by decide +kernel
theorem dL_law_98 : decode cL_law 98 = .ok (.aload 9, 2) := by decide +kernel
theorem dL_law_100 : decode cL_law 100 = .ok (.iconst 1, 1) := by decide +kernel
theorem dL_law_101 : decode cL_law 101 = .ok (.invokestatic 93, 3) := by decide +kernel
theorem dL_law_104 : decode cL_law 104 = .ok (.istore 12, 2) := by decide +kernel
theorem dL_law_106 : decode cL_law 106 = .ok (.iconst 0, 1) := by decide +kernel
theorem dL_law_107 : decode cL_law 107 = .ok (.istore 13, 2) := by decide +kernel
theorem dL_law_109 : decode cL_law 109 = .ok (.iload 13, 2) := by decide +kernel
theorem dL_law_111 : decode cL_law 111 = .ok (.sipush 130, 3) := by decide +kernel
theorem dL_law_114 : decode cL_law 114 = .ok (.if_icmp .ge 1435, 3) := by decide +kernel
theorem dL_law_117 : decode cL_law 117 = .ok (.iload 12, 2) := by decide +kernel
theorem dL_law_119 : decode cL_law 119 = .ok (.ifCond .eq 1430, 3) := by decide +kernel
theorem dL_law_122 : decode cL_law 122 = .ok (.iload 13, 2) := by decide +kernel
theorem dL_law_124 : decode cL_law 124 = .ok (.aload_n 0, 1) := by decide +kernel
theorem dL_law_125 : decode cL_law 125 = .ok (.arraylength, 1) := by decide +kernel
theorem dL_law_126 : decode cL_law 126 = .ok (.if_icmp .ge 13, 3) := by decide +kernel
theorem dL_law_129 : decode cL_law 129 = .ok (.aload_n 0, 1) := by decide +kernel
theorem dL_law_130 : decode cL_law 130 = .ok (.iload 13, 2) := by decide +kernel
theorem dL_law_132 : decode cL_law 132 = .ok (.iaload, 1) := by decide +kernel
theorem dL_law_133 : decode cL_law 133 = .ok (.ldc 97, 2) := by decide +kernel
theorem dL_law_135 : decode cL_law 135 = .ok (.iand, 1) := by decide +kernel
theorem dL_law_136 : decode cL_law 136 = .ok (.goto 24, 3) := by decide +kernel
theorem dL_law_139 : decode cL_law 139 = .ok (.ldc 98, 2) := by decide +kernel
theorem dL_law_141 : decode cL_law 141 = .ok (.iload 13, 2) := by decide +kernel
theorem dL_law_143 : decode cL_law 143 = .ok (.imul, 1) := by decide +kernel
theorem dL_law_144 : decode cL_law 144 = .ok (.iload 13, 2) := by decide +kernel
theorem dL_law_146 : decode cL_law 146 = .ok (.imul, 1) := by decide +kernel
theorem dL_law_147 : decode cL_law 147 = .ok (.sipush 7001, 3) := by decide +kernel
theorem dL_law_150 : decode cL_law 150 = .ok (.iload 13, 2) := by decide +kernel
theorem dL_law_152 : decode cL_law 152 = .ok (.imul, 1) := by decide +kernel
theorem dL_law_153 : decode cL_law 153 = .ok (.iadd, 1) := by decide +kernel
theorem dL_law_154 : decode cL_law 154 = .ok (.bipush 13, 2) := by decide +kernel
theorem dL_law_156 : decode cL_law 156 = .ok (.iadd, 1) := by decide +kernel
theorem dL_law_157 : decode cL_law 157 = .ok (.ldc 97, 2) := by decide +kernel
theorem dL_law_159 : decode cL_law 159 = .ok (.iand, 1) := by decide +kernel
theorem dL_law_160 : decode cL_law 160 = .ok (.istore 14, 2) := by decide +kernel
theorem dL_law_162 : decode cL_law 162 = .ok (.iload 13, 2) := by decide +kernel
theorem dL_law_164 : decode cL_law 164 = .ok (.iconst 4, 1) := by decide +kernel
theorem dL_law_165 : decode cL_law 165 = .ok (.if_icmp .ge 7, 3) := by decide +kernel
theorem dL_law_168 : decode cL_law 168 = .ok (.iconst 0, 1) := by decide +kernel
theorem dL_law_169 : decode cL_law 169 = .ok (.goto 8, 3) := by decide +kernel
theorem dL_law_172 : decode cL_law 172 = .ok (.iload 14, 2) := by decide +kernel
theorem dL_law_174 : decode cL_law 174 = .ok (.bipush 24, 2) := by decide +kernel
theorem dL_law_176 : decode cL_law 176 = .ok (.irem, 1) := by decide +kernel
theorem dL_law_177 : decode cL_law 177 = .ok (.istore 15, 2) := by decide +kernel
theorem dL_law_179 : decode cL_law 179 = .ok (.iload 14, 2) := by decide +kernel
theorem dL_law_181 : decode cL_law 181 = .ok (.bipush 24, 2) := by decide +kernel
theorem dL_law_183 : decode cL_law 183 = .ok (.idiv, 1) := by decide +kernel
theorem dL_law_184 : decode cL_law 184 = .ok (.istore 16, 2) := by decide +kernel
theorem dL_law_186 : decode cL_law 186 = .ok (.aload 11, 2) := by decide +kernel
theorem dL_law_188 : decode cL_law 188 = .ok (.iconst 1, 1) := by decide +kernel
theorem dL_law_189 : decode cL_law 189 = .ok (.iaload, 1) := by decide +kernel
theorem dL_law_190 : decode cL_law 190 = .ok (.ifCond .ne 7, 3) := by decide +kernel
theorem dL_law_193 : decode cL_law 193 = .ok (.iconst 0, 1) := by decide +kernel
theorem dL_law_194 : decode cL_law 194 = .ok (.goto 10, 3) := by decide +kernel
theorem dL_law_197 : decode cL_law 197 = .ok (.iload 16, 2) := by decide +kernel
theorem dL_law_199 : decode cL_law 199 = .ok (.aload 11, 2) := by decide +kernel
theorem dL_law_201 : decode cL_law 201 = .ok (.iconst 1, 1) := by decide +kernel
theorem dL_law_202 : decode cL_law 202 = .ok (.iaload, 1) := by decide +kernel
theorem dL_law_203 : decode cL_law 203 = .ok (.irem, 1) := by decide +kernel
theorem dL_law_204 : decode cL_law 204 = .ok (.istore 17, 2) := by decide +kernel
theorem dL_law_206 : decode cL_law 206 = .ok (.iload 16, 2) := by decide +kernel
theorem dL_law_208 : decode cL_law 208 = .ok (.bipush 20, 2) := by decide +kernel
theorem dL_law_210 : decode cL_law 210 = .ok (.idiv, 1) := by decide +kernel
theorem dL_law_211 : decode cL_law 211 = .ok (.iconst 5, 1) := by decide +kernel
theorem dL_law_212 : decode cL_law 212 = .ok (.irem, 1) := by decide +kernel
theorem dL_law_213 : decode cL_law 213 = .ok (.istore 18, 2) := by decide +kernel
theorem dL_law_215 : decode cL_law 215 = .ok (.iload 16, 2) := by decide +kernel
theorem dL_law_217 : decode cL_law 217 = .ok (.bipush 100, 2) := by decide +kernel
theorem dL_law_219 : decode cL_law 219 = .ok (.idiv, 1) := by decide +kernel
theorem dL_law_220 : decode cL_law 220 = .ok (.iconst 5, 1) := by decide +kernel
theorem dL_law_221 : decode cL_law 221 = .ok (.irem, 1) := by decide +kernel
theorem dL_law_222 : decode cL_law 222 = .ok (.istore 19, 2) := by decide +kernel
theorem dL_law_224 : decode cL_law 224 = .ok (.iconst 0, 1) := by decide +kernel
theorem dL_law_225 : decode cL_law 225 = .ok (.istore 20, 2) := by decide +kernel
theorem dL_law_227 : decode cL_law 227 = .ok (.iload 20, 2) := by decide +kernel
theorem dL_law_229 : decode cL_law 229 = .ok (.aload 11, 2) := by decide +kernel
theorem dL_law_231 : decode cL_law 231 = .ok (.iconst 1, 1) := by decide +kernel
theorem dL_law_232 : decode cL_law 232 = .ok (.iaload, 1) := by decide +kernel
theorem dL_law_233 : decode cL_law 233 = .ok (.if_icmp .ge 35, 3) := by decide +kernel
theorem dL_law_236 : decode cL_law 236 = .ok (.iload 16, 2) := by decide +kernel
theorem dL_law_238 : decode cL_law 238 = .ok (.bipush 7, 2) := by decide +kernel
theorem dL_law_240 : decode cL_law 240 = .ok (.irem, 1) := by decide +kernel
theorem dL_law_241 : decode cL_law 241 = .ok (.ifCond .le 27, 3) := by decide +kernel
theorem dL_law_244 : decode cL_law 244 = .ok (.aload_n 3, 1) := by decide +kernel
theorem dL_law_245 : decode cL_law 245 = .ok (.iload 17, 2) := by decide +kernel
theorem dL_law_247 : decode cL_law 247 = .ok (.iaload, 1) := by decide +kernel
theorem dL_law_248 : decode cL_law 248 = .ok (.ifCond .eq 20, 3) := by decide +kernel
theorem dL_law_251 : decode cL_law 251 = .ok (.iload 17, 2) := by decide +kernel
theorem dL_law_253 : decode cL_law 253 = .ok (.iconst 1, 1) := by decide +kernel
theorem dL_law_254 : decode cL_law 254 = .ok (.iadd, 1) := by decide +kernel
theorem dL_law_255 : decode cL_law 255 = .ok (.aload 11, 2) := by decide +kernel
theorem dL_law_257 : decode cL_law 257 = .ok (.iconst 1, 1) := by decide +kernel
theorem dL_law_258 : decode cL_law 258 = .ok (.iaload, 1) := by decide +kernel
theorem dL_law_259 : decode cL_law 259 = .ok (.irem, 1) := by decide +kernel
theorem dL_law_260 : decode cL_law 260 = .ok (.istore 17, 2) := by decide +kernel
theorem dL_law_262 : decode cL_law 262 = .ok (.iinc 20 1, 3) := by decide +kernel
theorem dL_law_265 : decode cL_law 265 = .ok (.goto (-38), 3) := by decide +kernel
theorem dL_law_268 : decode cL_law 268 = .ok (.iload 15, 2) := by decide +kernel
theorem dL_law_270 : decode cL_law 270 = .ok (.bipush 6, 2) := by decide +kernel
theorem dL_law_272 : decode cL_law 272 = .ok (.if_icmp .ge 208, 3) := by decide +kernel
theorem dL_law_275 : decode cL_law 275 = .ok (.aload 11, 2) := by decide +kernel
theorem dL_law_277 : decode cL_law 277 = .ok (.iconst 1, 1) := by decide +kernel
theorem dL_law_278 : decode cL_law 278 = .ok (.iaload, 1) := by decide +kernel
theorem dL_law_279 : decode cL_law 279 = .ok (.bipush 20, 2) := by decide +kernel
theorem dL_law_281 : decode cL_law 281 = .ok (.if_icmp .ge 199, 3) := by decide +kernel
theorem dL_law_284 : decode cL_law 284 = .ok (.aload 11, 2) := by decide +kernel
theorem dL_law_286 : decode cL_law 286 = .ok (.iconst 0, 1) := by decide +kernel
theorem dL_law_287 : decode cL_law 287 = .ok (.iaload, 1) := by decide +kernel
theorem dL_law_288 : decode cL_law 288 = .ok (.iconst 1, 1) := by decide +kernel
theorem dL_law_289 : decode cL_law 289 = .ok (.iadd, 1) := by decide +kernel
theorem dL_law_290 : decode cL_law 290 = .ok (.iload 16, 2) := by decide +kernel
theorem dL_law_292 : decode cL_law 292 = .ok (.iload 16, 2) := by decide +kernel
theorem dL_law_294 : decode cL_law 294 = .ok (.iconst 4, 1) := by decide +kernel
theorem dL_law_295 : decode cL_law 295 = .ok (.irem, 1) := by decide +kernel
theorem dL_law_296 : decode cL_law 296 = .ok (.ifCond .ne 9, 3) := by decide +kernel
theorem dL_law_299 : decode cL_law 299 = .ok (.sipush 3000, 3) := by decide +kernel
theorem dL_law_302 : decode cL_law 302 = .ok (.goto 6, 3) := by decide +kernel
theorem dL_law_305 : decode cL_law 305 = .ok (.sipush 250, 3) := by decide +kernel
theorem dL_law_308 : decode cL_law 308 = .ok (.irem, 1) := by decide +kernel
theorem dL_law_309 : decode cL_law 309 = .ok (.iadd, 1) := by decide +kernel
theorem dL_law_310 : decode cL_law 310 = .ok (.istore 20, 2) := by decide +kernel
theorem dL_law_312 : decode cL_law 312 = .ok (.iconst 1, 1) := by decide +kernel
theorem dL_law_313 : decode cL_law 313 = .ok (.iload 16, 2) := by decide +kernel
theorem dL_law_315 : decode cL_law 315 = .ok (.bipush 12, 2) := by decide +kernel
theorem dL_law_317 : decode cL_law 317 = .ok (.idiv, 1) := by decide +kernel
theorem dL_law_318 : decode cL_law 318 = .ok (.iload 16, 2) := by decide +kernel
theorem dL_law_320 : decode cL_law 320 = .ok (.iconst 5, 1) := by decide +kernel
theorem dL_law_321 : decode cL_law 321 = .ok (.irem, 1) := by decide +kernel
theorem dL_law_322 : decode cL_law 322 = .ok (.ifCond .ne 9, 3) := by decide +kernel
theorem dL_law_325 : decode cL_law 325 = .ok (.sipush 600, 3) := by decide +kernel
theorem dL_law_328 : decode cL_law 328 = .ok (.goto 6, 3) := by decide +kernel
theorem dL_law_331 : decode cL_law 331 = .ok (.sipush 200, 3) := by decide +kernel
theorem dL_law_334 : decode cL_law 334 = .ok (.irem, 1) := by decide +kernel
theorem dL_law_335 : decode cL_law 335 = .ok (.iadd, 1) := by decide +kernel
theorem dL_law_336 : decode cL_law 336 = .ok (.istore 21, 2) := by decide +kernel
theorem dL_law_338 : decode cL_law 338 = .ok (.iload 16, 2) := by decide +kernel
theorem dL_law_340 : decode cL_law 340 = .ok (.bipush 30, 2) := by decide +kernel
theorem dL_law_342 : decode cL_law 342 = .ok (.idiv, 1) := by decide +kernel
theorem dL_law_343 : decode cL_law 343 = .ok (.iload 16, 2) := by decide +kernel
theorem dL_law_345 : decode cL_law 345 = .ok (.iconst 3, 1) := by decide +kernel
theorem dL_law_346 : decode cL_law 346 = .ok (.irem, 1) := by decide +kernel
theorem dL_law_347 : decode cL_law 347 = .ok (.ifCond .ne 8, 3) := by decide +kernel
theorem dL_law_350 : decode cL_law 350 = .ok (.bipush 101, 2) := by decide +kernel
theorem dL_law_352 : decode cL_law 352 = .ok (.goto 5, 3) := by decide +kernel
theorem dL_law_355 : decode cL_law 355 = .ok (.bipush 40, 2) := by decide +kernel
theorem dL_law_357 : decode cL_law 357 = .ok (.irem, 1) := by decide +kernel
theorem dL_law_358 : decode cL_law 358 = .ok (.istore 22, 2) := by decide +kernel
theorem dL_law_360 : decode cL_law 360 = .ok (.iload 20, 2) := by decide +kernel
theorem dL_law_362 : decode cL_law 362 = .ok (.sipush 20000, 3) := by decide +kernel
theorem dL_law_365 : decode cL_law 365 = .ok (.if_icmp .gt 22, 3) := by decide +kernel
theorem dL_law_368 : decode cL_law 368 = .ok (.iload 20, 2) := by decide +kernel
theorem dL_law_370 : decode cL_law 370 = .ok (.sipush 1440, 3) := by decide +kernel
theorem dL_law_373 : decode cL_law 373 = .ok (.irem, 1) := by decide +kernel
theorem dL_law_374 : decode cL_law 374 = .ok (.sipush 1440, 3) := by decide +kernel
theorem dL_law_377 : decode cL_law 377 = .ok (.iload 21, 2) := by decide +kernel
theorem dL_law_379 : decode cL_law 379 = .ok (.isub, 1) := by decide +kernel
theorem dL_law_380 : decode cL_law 380 = .ok (.if_icmp .gt 7, 3) := by decide +kernel
theorem dL_law_383 : decode cL_law 383 = .ok (.iconst 1, 1) := by decide +kernel
theorem dL_law_384 : decode cL_law 384 = .ok (.goto 4, 3) := by decide +kernel
theorem dL_law_387 : decode cL_law 387 = .ok (.iconst 0, 1) := by decide +kernel
theorem dL_law_388 : decode cL_law 388 = .ok (.istore 23, 2) := by decide +kernel
theorem dL_law_390 : decode cL_law 390 = .ok (.aload_n 1, 1) := by decide +kernel
theorem dL_law_391 : decode cL_law 391 = .ok (.iconst 0, 1) := by decide +kernel
theorem dL_law_392 : decode cL_law 392 = .ok (.iload 20, 2) := by decide +kernel
theorem dL_law_394 : decode cL_law 394 = .ok (.iload 21, 2) := by decide +kernel
theorem dL_law_396 : decode cL_law 396 = .ok (.iload 22, 2) := by decide +kernel
theorem dL_law_398 : decode cL_law 398 = .ok (.iconst 0, 1) := by decide +kernel
theorem dL_law_399 : decode cL_law 399 = .ok (.iconst 0, 1) := by decide +kernel
theorem dL_law_400 : decode cL_law 400 = .ok (.invokestatic 99, 3) := by decide +kernel
theorem dL_law_403 : decode cL_law 403 = .ok (.iload 23, 2) := by decide +kernel
theorem dL_law_405 : decode cL_law 405 = .ok (.ifCond .eq 10, 3) := by decide +kernel
theorem dL_law_408 : decode cL_law 408 = .ok (.aload 11, 2) := by decide +kernel
theorem dL_law_410 : decode cL_law 410 = .ok (.iconst 1, 1) := by decide +kernel
theorem dL_law_411 : decode cL_law 411 = .ok (.iaload, 1) := by decide +kernel
