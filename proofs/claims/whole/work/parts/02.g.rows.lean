theorem dX2_promised_2 : decode cX2_promised 2 = .ok (.invokestatic 86, 3) := by decide +kernel
theorem dX2_promised_5 : decode cX2_promised 5 = .ok (.ifCond .eq 7, 3) := by decide +kernel
theorem dX2_promised_8 : decode cX2_promised 8 = .ok (.iconst 0, 1) := by decide +kernel
theorem dX2_promised_9 : decode cX2_promised 9 = .ok (.goto 4, 3) := by decide +kernel
theorem dX2_promised_12 : decode cX2_promised 12 = .ok (.iconst 1, 1) := by decide +kernel
theorem dX2_promised_13 : decode cX2_promised 13 = .ok (.putfield 51, 3) := by decide +kernel
theorem dX2_promised_16 : decode cX2_promised 16 = .ok (.aload_n 0, 1) := by decide +kernel
theorem dX2_promised_17 : decode cX2_promised 17 = .ok (.getfield 51, 3) := by decide +kernel
theorem dX2_promised_20 : decode cX2_promised 20 = .ok (.ifCond .ne 11, 3) := by decide +kernel
theorem dX2_promised_23 : decode cX2_promised 23 = .ok (.aload_n 0, 1) := by decide +kernel
theorem dX2_promised_24 : decode cX2_promised 24 = .ok (.iload_n 1, 1) := by decide +kernel
theorem dX2_promised_25 : decode cX2_promised 25 = .ok (.invokevirtual 67, 3) := by decide +kernel
theorem dX2_promised_28 : decode cX2_promised 28 = .ok (.goto 4, 3) := by decide +kernel
theorem dX2_promised_31 : decode cX2_promised 31 = .ok (.iconst 0, 1) := by decide +kernel
theorem dX2_promised_32 : decode cX2_promised 32 = .ok (.ireturn, 1) := by decide +kernel
set_option maxRecDepth 20000 in
theorem ggX2_minutesOf_X2_isDriver : GoodIn wsX2_minutesOf wsX2_isDriver := goodIn_r _ [9, 10, 11, 8, 12] (by decide +kernel) (by decide +kernel)
set_option maxRecDepth 20000 in
theorem gX2_minutesOf_X2_isDriver : GoodIn wsX2_minutesOf (va_wsS RX2 89 yX2_isDriver wsX2_isDriver) := goodIn_app (goodIn_of _ (by decide +kernel)) ggX2_minutesOf_X2_isDriver
set_option maxRecDepth 20000 in
theorem ggX2_minutesOf_X2_isWorked : GoodIn wsX2_minutesOf wsX2_isWorked := goodIn_r _ [16, 17, 18, 19, 20, 21, 22, 23, 24, 25, 26, 27, 28, 29, 30, 31, 32, 33, 34, 35] (by decide +kernel) (by decide +kernel)
set_option maxRecDepth 20000 in
theorem gX2_minutesOf_X2_isWorked : GoodIn wsX2_minutesOf (wsV RX2 71 RX2 yX2_isWorked wsX2_isWorked) := goodIn_app (goodIn_of _ (by decide +kernel)) ggX2_minutesOf_X2_isWorked
theorem dX2_minutesOf_0 : decode cX2_minutesOf 0 = .ok (.aload_n 0, 1) := by decide +kernel
theorem dX2_minutesOf_1 : decode cX2_minutesOf 1 = .ok (.iload_n 1, 1) := by decide +kernel
theorem dX2_minutesOf_2 : decode cX2_minutesOf 2 = .ok (.invokestatic 89, 3) := by decide +kernel
theorem dX2_minutesOf_5 : decode cX2_minutesOf 5 = .ok (.ifCond .eq 7, 3) := by decide +kernel
theorem dX2_minutesOf_8 : decode cX2_minutesOf 8 = .ok (.iconst 0, 1) := by decide +kernel
theorem dX2_minutesOf_9 : decode cX2_minutesOf 9 = .ok (.goto 4, 3) := by decide +kernel
theorem dX2_minutesOf_12 : decode cX2_minutesOf 12 = .ok (.iconst 1, 1) := by decide +kernel
theorem dX2_minutesOf_13 : decode cX2_minutesOf 13 = .ok (.putfield 51, 3) := by decide +kernel
theorem dX2_minutesOf_16 : decode cX2_minutesOf 16 = .ok (.iconst 0, 1) := by decide +kernel
theorem dX2_minutesOf_17 : decode cX2_minutesOf 17 = .ok (.istore_n 3, 1) := by decide +kernel
theorem dX2_minutesOf_18 : decode cX2_minutesOf 18 = .ok (.iconst 0, 1) := by decide +kernel
theorem dX2_minutesOf_19 : decode cX2_minutesOf 19 = .ok (.istore 4, 2) := by decide +kernel
theorem dX2_minutesOf_21 : decode cX2_minutesOf 21 = .ok (.iload 4, 2) := by decide +kernel
theorem dX2_minutesOf_23 : decode cX2_minutesOf 23 = .ok (.aload_n 0, 1) := by decide +kernel
theorem dX2_minutesOf_24 : decode cX2_minutesOf 24 = .ok (.getfield 54, 3) := by decide +kernel
theorem dX2_minutesOf_27 : decode cX2_minutesOf 27 = .ok (.if_icmp .ge 73, 3) := by decide +kernel
theorem dX2_minutesOf_30 : decode cX2_minutesOf 30 = .ok (.aload_n 0, 1) := by decide +kernel
theorem dX2_minutesOf_31 : decode cX2_minutesOf 31 = .ok (.getfield 51, 3) := by decide +kernel
theorem dX2_minutesOf_34 : decode cX2_minutesOf 34 = .ok (.ifCond .ne 66, 3) := by decide +kernel
theorem dX2_minutesOf_37 : decode cX2_minutesOf 37 = .ok (.iload_n 3, 1) := by decide +kernel
theorem dX2_minutesOf_38 : decode cX2_minutesOf 38 = .ok (.aload_n 0, 1) := by decide +kernel
theorem dX2_minutesOf_39 : decode cX2_minutesOf 39 = .ok (.getfield 25, 3) := by decide +kernel
theorem dX2_minutesOf_42 : decode cX2_minutesOf 42 = .ok (.iload 4, 2) := by decide +kernel
theorem dX2_minutesOf_44 : decode cX2_minutesOf 44 = .ok (.iaload, 1) := by decide +kernel
theorem dX2_minutesOf_45 : decode cX2_minutesOf 45 = .ok (.iload_n 1, 1) := by decide +kernel
theorem dX2_minutesOf_46 : decode cX2_minutesOf 46 = .ok (.if_icmp .ne 45, 3) := by decide +kernel
theorem dX2_minutesOf_49 : decode cX2_minutesOf 49 = .ok (.aload_n 0, 1) := by decide +kernel
theorem dX2_minutesOf_50 : decode cX2_minutesOf 50 = .ok (.iload 4, 2) := by decide +kernel
theorem dX2_minutesOf_52 : decode cX2_minutesOf 52 = .ok (.invokevirtual 71, 3) := by decide +kernel
theorem dX2_minutesOf_55 : decode cX2_minutesOf 55 = .ok (.ifCond .eq 36, 3) := by decide +kernel
theorem dX2_minutesOf_58 : decode cX2_minutesOf 58 = .ok (.aload_n 0, 1) := by decide +kernel
theorem dX2_minutesOf_59 : decode cX2_minutesOf 59 = .ok (.getfield 7, 3) := by decide +kernel
theorem dX2_minutesOf_62 : decode cX2_minutesOf 62 = .ok (.iload 4, 2) := by decide +kernel
theorem dX2_minutesOf_64 : decode cX2_minutesOf 64 = .ok (.iaload, 1) := by decide +kernel
theorem dX2_minutesOf_65 : decode cX2_minutesOf 65 = .ok (.sipush 1440, 3) := by decide +kernel
theorem dX2_minutesOf_68 : decode cX2_minutesOf 68 = .ok (.idiv, 1) := by decide +kernel
theorem dX2_minutesOf_69 : decode cX2_minutesOf 69 = .ok (.iload_n 2, 1) := by decide +kernel
theorem dX2_minutesOf_70 : decode cX2_minutesOf 70 = .ok (.if_icmp .ne 21, 3) := by decide +kernel
theorem dX2_minutesOf_73 : decode cX2_minutesOf 73 = .ok (.aload_n 0, 1) := by decide +kernel
theorem dX2_minutesOf_74 : decode cX2_minutesOf 74 = .ok (.getfield 13, 3) := by decide +kernel
theorem dX2_minutesOf_77 : decode cX2_minutesOf 77 = .ok (.iload 4, 2) := by decide +kernel
theorem dX2_minutesOf_79 : decode cX2_minutesOf 79 = .ok (.iaload, 1) := by decide +kernel
theorem dX2_minutesOf_80 : decode cX2_minutesOf 80 = .ok (.aload_n 0, 1) := by decide +kernel
theorem dX2_minutesOf_81 : decode cX2_minutesOf 81 = .ok (.getfield 7, 3) := by decide +kernel
theorem dX2_minutesOf_84 : decode cX2_minutesOf 84 = .ok (.iload 4, 2) := by decide +kernel
theorem dX2_minutesOf_86 : decode cX2_minutesOf 86 = .ok (.iaload, 1) := by decide +kernel
theorem dX2_minutesOf_87 : decode cX2_minutesOf 87 = .ok (.isub, 1) := by decide +kernel
theorem dX2_minutesOf_88 : decode cX2_minutesOf 88 = .ok (.goto 4, 3) := by decide +kernel
theorem dX2_minutesOf_91 : decode cX2_minutesOf 91 = .ok (.iconst 0, 1) := by decide +kernel
theorem dX2_minutesOf_92 : decode cX2_minutesOf 92 = .ok (.iadd, 1) := by decide +kernel
theorem dX2_minutesOf_93 : decode cX2_minutesOf 93 = .ok (.istore_n 3, 1) := by decide +kernel
theorem dX2_minutesOf_94 : decode cX2_minutesOf 94 = .ok (.iinc 4 1, 3) := by decide +kernel
theorem dX2_minutesOf_97 : decode cX2_minutesOf 97 = .ok (.goto (-76), 3) := by decide +kernel
theorem dX2_minutesOf_100 : decode cX2_minutesOf 100 = .ok (.iload_n 3, 1) := by decide +kernel
theorem dX2_minutesOf_101 : decode cX2_minutesOf 101 = .ok (.ireturn, 1) := by decide +kernel
set_option maxRecDepth 20000 in
theorem ggL_run_X1_run : GoodIn wsL_run wsX1_run := goodIn_ca (goodIn_ca (goodIn_r _ [7, 8, 9, 10, 11, 12, 13, 14, 6, 15, 16, 17, 18, 19, 20, 21, 22, 23, 24, 25, 26, 27, 28, 29, 30, 31, 32, 33, 34, 35, 36, 37, 38, 39, 40, 41, 42, 43] (by decide +kernel) (by decide +kernel)) (goodIn_sub (fun _ h => List.mem_cons_of_mem _ (List.mem_append_left _ (List.mem_append_right _ h))) (by decide +kernel))) (goodIn_sub (fun _ h => List.mem_cons_of_mem _ (List.mem_append_right _ h)) (by decide +kernel))
set_option maxRecDepth 20000 in
theorem gL_run_X1_run : GoodIn wsL_run (wsV RL 7 RX1 yX1_run wsX1_run) := goodIn_app (goodIn_of _ (by decide +kernel)) ggL_run_X1_run
theorem dL_run_0 : decode cL_run 0 = .ok (.aload 4, 2) := by decide +kernel
theorem dL_run_2 : decode cL_run 2 = .ok (.iconst 0, 1) := by decide +kernel
theorem dL_run_3 : decode cL_run 3 = .ok (.aload_n 0, 1) := by decide +kernel
theorem dL_run_4 : decode cL_run 4 = .ok (.iload_n 1, 1) := by decide +kernel
theorem dL_run_5 : decode cL_run 5 = .ok (.iload_n 2, 1) := by decide +kernel
theorem dL_run_6 : decode cL_run 6 = .ok (.iload_n 3, 1) := by decide +kernel
theorem dL_run_7 : decode cL_run 7 = .ok (.invokevirtual 7, 3) := by decide +kernel
theorem dL_run_10 : decode cL_run 10 = .ok (.i2l, 1) := by decide +kernel
theorem dL_run_11 : decode cL_run 11 = .ok (.lastore, 1) := by decide +kernel
theorem dL_run_12 : decode cL_run 12 = .ok (.goto 11, 3) := by decide +kernel
theorem dL_run_15 : decode cL_run 15 = .ok (.astore 5, 2) := by decide +kernel
theorem dL_run_17 : decode cL_run 17 = .ok (.iconst 1, 1) := by decide +kernel
theorem dL_run_18 : decode cL_run 18 = .ok (.ireturn, 1) := by decide +kernel
theorem dL_run_19 : decode cL_run 19 = .ok (.astore 5, 2) := by decide +kernel
theorem dL_run_21 : decode cL_run 21 = .ok (.iconst 2, 1) := by decide +kernel
theorem dL_run_22 : decode cL_run 22 = .ok (.ireturn, 1) := by decide +kernel
theorem dL_run_23 : decode cL_run 23 = .ok (.iconst 0, 1) := by decide +kernel
theorem dL_run_24 : decode cL_run 24 = .ok (.ireturn, 1) := by decide +kernel
set_option maxRecDepth 20000 in
theorem ggL_lead_X1_lead : GoodIn wsL_lead wsX1_lead := goodIn_ca (goodIn_ca (goodIn_r _ [7, 8, 9, 10, 11, 12, 6, 13, 14, 15, 16, 17, 18, 19, 20, 21, 22, 23, 24, 25, 26, 27, 28, 29, 30, 31, 32, 33, 34, 35, 36] (by decide +kernel) (by decide +kernel)) (goodIn_sub (fun _ h => List.mem_cons_of_mem _ (List.mem_append_left _ (List.mem_append_right _ h))) (by decide +kernel))) (goodIn_sub (fun _ h => List.mem_cons_of_mem _ (List.mem_append_right _ h)) (by decide +kernel))
set_option maxRecDepth 20000 in
theorem gL_lead_X1_lead : GoodIn wsL_lead (wsV RL 17 RX1 yX1_lead wsX1_lead) := goodIn_app (goodIn_of _ (by decide +kernel)) ggL_lead_X1_lead
theorem dL_lead_0 : decode cL_lead 0 = .ok (.aload_n 3, 1) := by decide +kernel
theorem dL_lead_1 : decode cL_lead 1 = .ok (.iconst 0, 1) := by decide +kernel
theorem dL_lead_2 : decode cL_lead 2 = .ok (.aload_n 0, 1) := by decide +kernel
theorem dL_lead_3 : decode cL_lead 3 = .ok (.iload_n 1, 1) := by decide +kernel
theorem dL_lead_4 : decode cL_lead 4 = .ok (.iload_n 2, 1) := by decide +kernel
theorem dL_lead_5 : decode cL_lead 5 = .ok (.invokevirtual 17, 3) := by decide +kernel
theorem dL_lead_8 : decode cL_lead 8 = .ok (.ifCond .eq 7, 3) := by decide +kernel
theorem dL_lead_11 : decode cL_lead 11 = .ok (.lconst 1, 1) := by decide +kernel
theorem dL_lead_12 : decode cL_lead 12 = .ok (.goto 4, 3) := by decide +kernel
theorem dL_lead_15 : decode cL_lead 15 = .ok (.lconst 0, 1) := by decide +kernel
theorem dL_lead_16 : decode cL_lead 16 = .ok (.lastore, 1) := by decide +kernel
theorem dL_lead_17 : decode cL_lead 17 = .ok (.goto 11, 3) := by decide +kernel
theorem dL_lead_20 : decode cL_lead 20 = .ok (.astore 4, 2) := by decide +kernel
theorem dL_lead_22 : decode cL_lead 22 = .ok (.iconst 1, 1) := by decide +kernel
theorem dL_lead_23 : decode cL_lead 23 = .ok (.ireturn, 1) := by decide +kernel
theorem dL_lead_24 : decode cL_lead 24 = .ok (.astore 4, 2) := by decide +kernel
theorem dL_lead_26 : decode cL_lead 26 = .ok (.iconst 2, 1) := by decide +kernel
theorem dL_lead_27 : decode cL_lead 27 = .ok (.ireturn, 1) := by decide +kernel
theorem dL_lead_28 : decode cL_lead 28 = .ok (.iconst 0, 1) := by decide +kernel
theorem dL_lead_29 : decode cL_lead 29 = .ok (.ireturn, 1) := by decide +kernel
set_option maxRecDepth 20000 in
theorem ggL_order_X1_order : GoodIn wsL_order wsX1_order := goodIn_ca (goodIn_ca (goodIn_ca (goodIn_r _ [8, 9, 10, 11, 12, 13, 14, 15, 7, 16, 17, 18, 19, 20, 21, 22, 23, 24, 25, 26, 27, 28, 29, 30, 31, 32, 33, 34, 35, 36, 37, 38, 39, 40, 41, 42, 43, 44, 45, 46, 47, 48, 49, 50, 51, 52, 53, 54, 55, 56, 57, 58, 59, 60, 61, 62, 63, 64, 65, 66, 67, 68, 69, 70, 71, 72, 73, 74, 75, 76, 77, 78, 79, 80, 81, 82, 83, 84, 85, 86, 87, 88, 89, 90, 91, 92, 93, 94, 95, 96, 97, 98, 99, 100, 101, 102, 103, 104, 105, 106, 107, 108, 109, 110, 111, 112, 113, 114, 115, 116] (by decide +kernel) (by decide +kernel)) (goodIn_sub (fun _ h => List.mem_cons_of_mem _ (List.mem_append_left _ (List.mem_append_left _ (List.mem_append_right _ h)))) (by decide +kernel))) (goodIn_sub (fun _ h => List.mem_cons_of_mem _ (List.mem_append_left _ (List.mem_append_right _ h))) (by decide +kernel))) (goodIn_sub (fun _ h => List.mem_cons_of_mem _ (List.mem_append_right _ h)) (by decide +kernel))
set_option maxRecDepth 20000 in
theorem gL_order_X1_order : GoodIn wsL_order (wsV RL 23 RX1 yX1_order wsX1_order) := goodIn_app (goodIn_of _ (by decide +kernel)) ggL_order_X1_order
theorem dL_order_0 : decode cL_order 0 = .ok (.aload 6, 2) := by decide +kernel
theorem dL_order_2 : decode cL_order 2 = .ok (.iconst 0, 1) := by decide +kernel
theorem dL_order_3 : decode cL_order 3 = .ok (.aload_n 0, 1) := by decide +kernel
theorem dL_order_4 : decode cL_order 4 = .ok (.iload_n 1, 1) := by decide +kernel
theorem dL_order_5 : decode cL_order 5 = .ok (.iload_n 2, 1) := by decide +kernel
theorem dL_order_6 : decode cL_order 6 = .ok (.iload_n 3, 1) := by decide +kernel
theorem dL_order_7 : decode cL_order 7 = .ok (.iload 4, 2) := by decide +kernel
theorem dL_order_9 : decode cL_order 9 = .ok (.iload 5, 2) := by decide +kernel
theorem dL_order_11 : decode cL_order 11 = .ok (.invokevirtual 23, 3) := by decide +kernel
theorem dL_order_14 : decode cL_order 14 = .ok (.i2l, 1) := by decide +kernel
theorem dL_order_15 : decode cL_order 15 = .ok (.lastore, 1) := by decide +kernel
theorem dL_order_16 : decode cL_order 16 = .ok (.goto 15, 3) := by decide +kernel
theorem dL_order_19 : decode cL_order 19 = .ok (.astore 7, 2) := by decide +kernel
theorem dL_order_21 : decode cL_order 21 = .ok (.iconst 1, 1) := by decide +kernel
theorem dL_order_22 : decode cL_order 22 = .ok (.ireturn, 1) := by decide +kernel
theorem dL_order_23 : decode cL_order 23 = .ok (.astore 7, 2) := by decide +kernel
theorem dL_order_25 : decode cL_order 25 = .ok (.iconst 2, 1) := by decide +kernel
theorem dL_order_26 : decode cL_order 26 = .ok (.ireturn, 1) := by decide +kernel
theorem dL_order_27 : decode cL_order 27 = .ok (.astore 7, 2) := by decide +kernel
theorem dL_order_29 : decode cL_order 29 = .ok (.iconst 3, 1) := by decide +kernel
theorem dL_order_30 : decode cL_order 30 = .ok (.ireturn, 1) := by decide +kernel
theorem dL_order_31 : decode cL_order 31 = .ok (.iconst 0, 1) := by decide +kernel
theorem dL_order_32 : decode cL_order 32 = .ok (.ireturn, 1) := by decide +kernel
set_option maxRecDepth 20000 in
theorem ggL_breaks_X1_breaks : GoodIn wsL_breaks wsX1_breaks := goodIn_ca (goodIn_r _ [6, 7, 8, 9, 5, 10, 11, 12, 13, 14, 15, 16, 17, 18, 19, 20, 21, 22, 23, 24, 25, 26, 27, 28, 29, 30, 31, 32, 33, 34, 35, 36, 37, 38, 39, 40, 41, 42, 43, 44, 45, 46, 47, 48, 49, 50, 51, 52, 53, 54, 55, 56, 57, 58, 59, 60, 61, 62, 63, 64, 65, 66, 67, 68, 69, 70, 71, 72, 73, 74, 75, 76, 77, 78, 79, 80, 81, 82, 83, 84, 85, 86, 87] (by decide +kernel) (by decide +kernel)) (goodIn_sub (fun _ h => List.mem_cons_of_mem _ (List.mem_append_right _ h)) (by decide +kernel))
set_option maxRecDepth 20000 in
theorem gL_breaks_X1_breaks : GoodIn wsL_breaks (wsV RL 27 RX1 yX1_breaks wsX1_breaks) := goodIn_app (goodIn_of _ (by decide +kernel)) ggL_breaks_X1_breaks
theorem dL_breaks_0 : decode cL_breaks 0 = .ok (.aload_n 3, 1) := by decide +kernel
theorem dL_breaks_1 : decode cL_breaks 1 = .ok (.iconst 0, 1) := by decide +kernel
theorem dL_breaks_2 : decode cL_breaks 2 = .ok (.aload_n 0, 1) := by decide +kernel
theorem dL_breaks_3 : decode cL_breaks 3 = .ok (.iload_n 1, 1) := by decide +kernel
theorem dL_breaks_4 : decode cL_breaks 4 = .ok (.iload_n 2, 1) := by decide +kernel
theorem dL_breaks_5 : decode cL_breaks 5 = .ok (.invokevirtual 27, 3) := by decide +kernel
theorem dL_breaks_8 : decode cL_breaks 8 = .ok (.ifCond .eq 7, 3) := by decide +kernel
theorem dL_breaks_11 : decode cL_breaks 11 = .ok (.lconst 1, 1) := by decide +kernel
theorem dL_breaks_12 : decode cL_breaks 12 = .ok (.goto 4, 3) := by decide +kernel
theorem dL_breaks_15 : decode cL_breaks 15 = .ok (.lconst 0, 1) := by decide +kernel
theorem dL_breaks_16 : decode cL_breaks 16 = .ok (.lastore, 1) := by decide +kernel
theorem dL_breaks_17 : decode cL_breaks 17 = .ok (.goto 7, 3) := by decide +kernel
theorem dL_breaks_20 : decode cL_breaks 20 = .ok (.astore 4, 2) := by decide +kernel
theorem dL_breaks_22 : decode cL_breaks 22 = .ok (.iconst 1, 1) := by decide +kernel
theorem dL_breaks_23 : decode cL_breaks 23 = .ok (.ireturn, 1) := by decide +kernel
theorem dL_breaks_24 : decode cL_breaks 24 = .ok (.iconst 0, 1) := by decide +kernel
theorem dL_breaks_25 : decode cL_breaks 25 = .ok (.ireturn, 1) := by decide +kernel
set_option maxRecDepth 20000 in
theorem ggL_ails_X1_ails : GoodIn wsL_ails wsX1_ails := goodIn_ca (goodIn_r _ [6, 7, 8, 9, 5, 10, 11, 12, 13, 14, 15, 16, 17, 18, 19, 20, 21, 22, 23, 24, 25, 26, 27, 28, 29, 30, 31, 32, 33, 34, 35, 36, 37, 38, 39, 40, 41, 42, 43, 44, 45, 46, 47, 48, 49, 50, 51, 52, 53, 54, 55, 56, 57, 58, 59, 60, 61, 62, 63, 64, 65, 66, 67, 68, 69, 70, 71, 72, 73, 74, 75, 76, 77, 78, 79, 80, 81, 82, 83, 84, 85] (by decide +kernel) (by decide +kernel)) (goodIn_sub (fun _ h => List.mem_cons_of_mem _ (List.mem_append_right _ h)) (by decide +kernel))
set_option maxRecDepth 20000 in
theorem gL_ails_X1_ails : GoodIn wsL_ails (wsV RL 31 RX1 yX1_ails wsX1_ails) := goodIn_app (goodIn_of _ (by decide +kernel)) ggL_ails_X1_ails
theorem dL_ails_0 : decode cL_ails 0 = .ok (.aload_n 3, 1) := by decide +kernel
theorem dL_ails_1 : decode cL_ails 1 = .ok (.iconst 0, 1) := by decide +kernel
theorem dL_ails_2 : decode cL_ails 2 = .ok (.aload_n 0, 1) := by decide +kernel
theorem dL_ails_3 : decode cL_ails 3 = .ok (.iload_n 1, 1) := by decide +kernel
theorem dL_ails_4 : decode cL_ails 4 = .ok (.iload_n 2, 1) := by decide +kernel
theorem dL_ails_5 : decode cL_ails 5 = .ok (.invokevirtual 31, 3) := by decide +kernel
theorem dL_ails_8 : decode cL_ails 8 = .ok (.ifCond .eq 7, 3) := by decide +kernel
theorem dL_ails_11 : decode cL_ails 11 = .ok (.lconst 1, 1) := by decide +kernel
theorem dL_ails_12 : decode cL_ails 12 = .ok (.goto 4, 3) := by decide +kernel
theorem dL_ails_15 : decode cL_ails 15 = .ok (.lconst 0, 1) := by decide +kernel
theorem dL_ails_16 : decode cL_ails 16 = .ok (.lastore, 1) := by decide +kernel
theorem dL_ails_17 : decode cL_ails 17 = .ok (.goto 7, 3) := by decide +kernel
theorem dL_ails_20 : decode cL_ails 20 = .ok (.astore 4, 2) := by decide +kernel
theorem dL_ails_22 : decode cL_ails 22 = .ok (.iconst 1, 1) := by decide +kernel
theorem dL_ails_23 : decode cL_ails 23 = .ok (.ireturn, 1) := by decide +kernel
theorem dL_ails_24 : decode cL_ails 24 = .ok (.iconst 0, 1) := by decide +kernel
theorem dL_ails_25 : decode cL_ails 25 = .ok (.ireturn, 1) := by decide +kernel
set_option maxRecDepth 20000 in
theorem ggL_plug_X1_plug : GoodIn wsL_plug wsX1_plug := goodIn_ca (goodIn_ca (goodIn_r _ [7, 8, 9, 10, 11, 12, 6, 13, 14, 15, 16, 17, 18, 19, 20, 21, 22, 23, 24, 25, 26, 27, 28, 29, 30, 31, 32, 33, 34, 35, 36, 37, 38, 39, 40, 41, 42, 43, 44, 45] (by decide +kernel) (by decide +kernel)) (goodIn_sub (fun _ h => List.mem_cons_of_mem _ (List.mem_append_left _ (List.mem_append_right _ h))) (by decide +kernel))) (goodIn_sub (fun _ h => List.mem_cons_of_mem _ (List.mem_append_right _ h)) (by decide +kernel))
set_option maxRecDepth 20000 in
theorem gL_plug_X1_plug : GoodIn wsL_plug (wsV RL 34 RX1 yX1_plug wsX1_plug) := goodIn_app (goodIn_of _ (by decide +kernel)) ggL_plug_X1_plug
theorem dL_plug_0 : decode cL_plug 0 = .ok (.aload_n 3, 1) := by decide +kernel
theorem dL_plug_1 : decode cL_plug 1 = .ok (.iconst 0, 1) := by decide +kernel
theorem dL_plug_2 : decode cL_plug 2 = .ok (.aload_n 0, 1) := by decide +kernel
theorem dL_plug_3 : decode cL_plug 3 = .ok (.iload_n 1, 1) := by decide +kernel
theorem dL_plug_4 : decode cL_plug 4 = .ok (.iload_n 2, 1) := by decide +kernel
theorem dL_plug_5 : decode cL_plug 5 = .ok (.invokevirtual 34, 3) := by decide +kernel
theorem dL_plug_8 : decode cL_plug 8 = .ok (.i2l, 1) := by decide +kernel
theorem dL_plug_9 : decode cL_plug 9 = .ok (.lastore, 1) := by decide +kernel
theorem dL_plug_10 : decode cL_plug 10 = .ok (.goto 11, 3) := by decide +kernel
theorem dL_plug_13 : decode cL_plug 13 = .ok (.astore 4, 2) := by decide +kernel
theorem dL_plug_15 : decode cL_plug 15 = .ok (.iconst 1, 1) := by decide +kernel
theorem dL_plug_16 : decode cL_plug 16 = .ok (.ireturn, 1) := by decide +kernel
theorem dL_plug_17 : decode cL_plug 17 = .ok (.astore 4, 2) := by decide +kernel
theorem dL_plug_19 : decode cL_plug 19 = .ok (.iconst 2, 1) := by decide +kernel
theorem dL_plug_20 : decode cL_plug 20 = .ok (.ireturn, 1) := by decide +kernel
theorem dL_plug_21 : decode cL_plug 21 = .ok (.iconst 0, 1) := by decide +kernel
theorem dL_plug_22 : decode cL_plug 22 = .ok (.ireturn, 1) := by decide +kernel
set_option maxRecDepth 20000 in
theorem ggL_advance_X1_advance : GoodIn wsL_advance wsX1_advance := goodIn_ca (goodIn_ca (goodIn_r _ [7, 8, 9, 10, 11, 12, 6, 13, 14, 15, 16, 17, 18, 19, 20, 21, 22, 23, 24, 25, 26, 27, 28, 29, 30, 31, 32, 33, 34, 35, 36, 37, 38, 39, 40, 41, 42, 43, 44, 45, 46, 47, 48, 49, 50, 51, 52, 53, 54, 55, 56, 57, 58, 59, 60, 61, 62, 63, 64, 65, 66, 67, 68, 69, 70, 71, 72, 73, 74, 75, 76, 77, 78] (by decide +kernel) (by decide +kernel)) (goodIn_sub (fun _ h => List.mem_cons_of_mem _ (List.mem_append_left _ (List.mem_append_right _ h))) (by decide +kernel))) (goodIn_sub (fun _ h => List.mem_cons_of_mem _ (List.mem_append_right _ h)) (by decide +kernel))
set_option maxRecDepth 20000 in
theorem gL_advance_X1_advance : GoodIn wsL_advance (wsV RL 38 RX1 yX1_advance wsX1_advance) := goodIn_app (goodIn_of _ (by decide +kernel)) ggL_advance_X1_advance
theorem dL_advance_0 : decode cL_advance 0 = .ok (.aload_n 2, 1) := by decide +kernel
theorem dL_advance_1 : decode cL_advance 1 = .ok (.iconst 0, 1) := by decide +kernel
theorem dL_advance_2 : decode cL_advance 2 = .ok (.aload_n 0, 1) := by decide +kernel
theorem dL_advance_3 : decode cL_advance 3 = .ok (.iload_n 1, 1) := by decide +kernel
theorem dL_advance_4 : decode cL_advance 4 = .ok (.invokevirtual 38, 3) := by decide +kernel
theorem dL_advance_7 : decode cL_advance 7 = .ok (.i2l, 1) := by decide +kernel
theorem dL_advance_8 : decode cL_advance 8 = .ok (.lastore, 1) := by decide +kernel
theorem dL_advance_9 : decode cL_advance 9 = .ok (.goto 9, 3) := by decide +kernel
theorem dL_advance_12 : decode cL_advance 12 = .ok (.astore_n 3, 1) := by decide +kernel
theorem dL_advance_13 : decode cL_advance 13 = .ok (.iconst 1, 1) := by decide +kernel
theorem dL_advance_14 : decode cL_advance 14 = .ok (.ireturn, 1) := by decide +kernel
theorem dL_advance_15 : decode cL_advance 15 = .ok (.astore_n 3, 1) := by decide +kernel
theorem dL_advance_16 : decode cL_advance 16 = .ok (.iconst 2, 1) := by decide +kernel
theorem dL_advance_17 : decode cL_advance 17 = .ok (.ireturn, 1) := by decide +kernel
theorem dL_advance_18 : decode cL_advance 18 = .ok (.iconst 0, 1) := by decide +kernel
theorem dL_advance_19 : decode cL_advance 19 = .ok (.ireturn, 1) := by decide +kernel
set_option maxRecDepth 20000 in
theorem ggL_orderAt_X1_orderAt : GoodIn wsL_orderAt wsX1_orderAt := goodIn_ca (goodIn_r _ [6, 7, 8, 9, 10, 5, 11, 12, 13, 14, 15, 16, 17, 18, 19, 20, 21, 22, 23, 24, 25] (by decide +kernel) (by decide +kernel)) (goodIn_sub (fun _ h => List.mem_cons_of_mem _ (List.mem_append_right _ h)) (by decide +kernel))
set_option maxRecDepth 20000 in
theorem gL_orderAt_X1_orderAt : GoodIn wsL_orderAt (wsV RL 42 RX1 yX1_orderAt wsX1_orderAt) := goodIn_app (goodIn_of _ (by decide +kernel)) ggL_orderAt_X1_orderAt
theorem dL_orderAt_0 : decode cL_orderAt 0 = .ok (.aload_n 2, 1) := by decide +kernel
theorem dL_orderAt_1 : decode cL_orderAt 1 = .ok (.iconst 0, 1) := by decide +kernel
theorem dL_orderAt_2 : decode cL_orderAt 2 = .ok (.aload_n 0, 1) := by decide +kernel
theorem dL_orderAt_3 : decode cL_orderAt 3 = .ok (.iload_n 1, 1) := by decide +kernel
theorem dL_orderAt_4 : decode cL_orderAt 4 = .ok (.invokevirtual 42, 3) := by decide +kernel
theorem dL_orderAt_7 : decode cL_orderAt 7 = .ok (.i2l, 1) := by decide +kernel
theorem dL_orderAt_8 : decode cL_orderAt 8 = .ok (.lastore, 1) := by decide +kernel
theorem dL_orderAt_9 : decode cL_orderAt 9 = .ok (.goto 6, 3) := by decide +kernel
theorem dL_orderAt_12 : decode cL_orderAt 12 = .ok (.astore_n 3, 1) := by decide +kernel
theorem dL_orderAt_13 : decode cL_orderAt 13 = .ok (.iconst 1, 1) := by decide +kernel
theorem dL_orderAt_14 : decode cL_orderAt 14 = .ok (.ireturn, 1) := by decide +kernel
theorem dL_orderAt_15 : decode cL_orderAt 15 = .ok (.iconst 0, 1) := by decide +kernel
theorem dL_orderAt_16 : decode cL_orderAt 16 = .ok (.ireturn, 1) := by decide +kernel
set_option maxRecDepth 20000 in
theorem ggL_stateOf_X1_stateOf : GoodIn wsL_stateOf wsX1_stateOf := goodIn_ca (goodIn_r _ [6, 7, 8, 9, 10, 11, 5, 12, 13, 14, 15, 16, 17, 18, 19, 20, 21, 22, 23, 24, 25, 26, 27, 28, 29, 30, 31, 32] (by decide +kernel) (by decide +kernel)) (goodIn_sub (fun _ h => List.mem_cons_of_mem _ (List.mem_append_right _ h)) (by decide +kernel))
set_option maxRecDepth 20000 in
theorem gL_stateOf_X1_stateOf : GoodIn wsL_stateOf (wsV RL 45 RX1 yX1_stateOf wsX1_stateOf) := goodIn_app (goodIn_of _ (by decide +kernel)) ggL_stateOf_X1_stateOf
theorem dL_stateOf_0 : decode cL_stateOf 0 = .ok (.aload_n 2, 1) := by decide +kernel
theorem dL_stateOf_1 : decode cL_stateOf 1 = .ok (.iconst 0, 1) := by decide +kernel
theorem dL_stateOf_2 : decode cL_stateOf 2 = .ok (.aload_n 0, 1) := by decide +kernel
theorem dL_stateOf_3 : decode cL_stateOf 3 = .ok (.iload_n 1, 1) := by decide +kernel
theorem dL_stateOf_4 : decode cL_stateOf 4 = .ok (.invokevirtual 45, 3) := by decide +kernel
theorem dL_stateOf_7 : decode cL_stateOf 7 = .ok (.i2l, 1) := by decide +kernel
theorem dL_stateOf_8 : decode cL_stateOf 8 = .ok (.lastore, 1) := by decide +kernel
theorem dL_stateOf_9 : decode cL_stateOf 9 = .ok (.goto 6, 3) := by decide +kernel
theorem dL_stateOf_12 : decode cL_stateOf 12 = .ok (.astore_n 3, 1) := by decide +kernel
theorem dL_stateOf_13 : decode cL_stateOf 13 = .ok (.iconst 1, 1) := by decide +kernel
theorem dL_stateOf_14 : decode cL_stateOf 14 = .ok (.ireturn, 1) := by decide +kernel
theorem dL_stateOf_15 : decode cL_stateOf 15 = .ok (.iconst 0, 1) := by decide +kernel
theorem dL_stateOf_16 : decode cL_stateOf 16 = .ok (.ireturn, 1) := by decide +kernel
set_option maxRecDepth 20000 in
theorem ggL_busOf_X1_busOf : GoodIn wsL_busOf wsX1_busOf := goodIn_ca (goodIn_r _ [6, 7, 8, 9, 10, 11, 5, 12, 13, 14, 15, 16, 17, 18, 19, 20, 21, 22, 23, 24, 25, 26, 27, 28, 29, 30, 31, 32] (by decide +kernel) (by decide +kernel)) (goodIn_sub (fun _ h => List.mem_cons_of_mem _ (List.mem_append_right _ h)) (by decide +kernel))
set_option maxRecDepth 20000 in
theorem gL_busOf_X1_busOf : GoodIn wsL_busOf (wsV RL 48 RX1 yX1_busOf wsX1_busOf) := goodIn_app (goodIn_of _ (by decide +kernel)) ggL_busOf_X1_busOf
theorem dL_busOf_0 : decode cL_busOf 0 = .ok (.aload_n 2, 1) := by decide +kernel
theorem dL_busOf_1 : decode cL_busOf 1 = .ok (.iconst 0, 1) := by decide +kernel
theorem dL_busOf_2 : decode cL_busOf 2 = .ok (.aload_n 0, 1) := by decide +kernel
theorem dL_busOf_3 : decode cL_busOf 3 = .ok (.iload_n 1, 1) := by decide +kernel
theorem dL_busOf_4 : decode cL_busOf 4 = .ok (.invokevirtual 48, 3) := by decide +kernel
theorem dL_busOf_7 : decode cL_busOf 7 = .ok (.i2l, 1) := by decide +kernel
theorem dL_busOf_8 : decode cL_busOf 8 = .ok (.lastore, 1) := by decide +kernel
theorem dL_busOf_9 : decode cL_busOf 9 = .ok (.goto 6, 3) := by decide +kernel
theorem dL_busOf_12 : decode cL_busOf 12 = .ok (.astore_n 3, 1) := by decide +kernel
theorem dL_busOf_13 : decode cL_busOf 13 = .ok (.iconst 1, 1) := by decide +kernel
theorem dL_busOf_14 : decode cL_busOf 14 = .ok (.ireturn, 1) := by decide +kernel
theorem dL_busOf_15 : decode cL_busOf 15 = .ok (.iconst 0, 1) := by decide +kernel
theorem dL_busOf_16 : decode cL_busOf 16 = .ok (.ireturn, 1) := by decide +kernel
set_option maxRecDepth 20000 in
theorem ggL_driverOf_X1_driverOf : GoodIn wsL_driverOf wsX1_driverOf := goodIn_ca (goodIn_r _ [6, 7, 8, 9, 10, 11, 5, 12, 13, 14, 15, 16, 17, 18, 19, 20, 21, 22, 23, 24, 25, 26, 27, 28, 29, 30, 31, 32] (by decide +kernel) (by decide +kernel)) (goodIn_sub (fun _ h => List.mem_cons_of_mem _ (List.mem_append_right _ h)) (by decide +kernel))
set_option maxRecDepth 20000 in
theorem gL_driverOf_X1_driverOf : GoodIn wsL_driverOf (wsV RL 51 RX1 yX1_driverOf wsX1_driverOf) := goodIn_app (goodIn_of _ (by decide +kernel)) ggL_driverOf_X1_driverOf
theorem dL_driverOf_0 : decode cL_driverOf 0 = .ok (.aload_n 2, 1) := by decide +kernel
theorem dL_driverOf_1 : decode cL_driverOf 1 = .ok (.iconst 0, 1) := by decide +kernel
theorem dL_driverOf_2 : decode cL_driverOf 2 = .ok (.aload_n 0, 1) := by decide +kernel
theorem dL_driverOf_3 : decode cL_driverOf 3 = .ok (.iload_n 1, 1) := by decide +kernel
theorem dL_driverOf_4 : decode cL_driverOf 4 = .ok (.invokevirtual 51, 3) := by decide +kernel
theorem dL_driverOf_7 : decode cL_driverOf 7 = .ok (.i2l, 1) := by decide +kernel
theorem dL_driverOf_8 : decode cL_driverOf 8 = .ok (.lastore, 1) := by decide +kernel
theorem dL_driverOf_9 : decode cL_driverOf 9 = .ok (.goto 6, 3) := by decide +kernel
theorem dL_driverOf_12 : decode cL_driverOf 12 = .ok (.astore_n 3, 1) := by decide +kernel
theorem dL_driverOf_13 : decode cL_driverOf 13 = .ok (.iconst 1, 1) := by decide +kernel
theorem dL_driverOf_14 : decode cL_driverOf 14 = .ok (.ireturn, 1) := by decide +kernel
theorem dL_driverOf_15 : decode cL_driverOf 15 = .ok (.iconst 0, 1) := by decide +kernel
theorem dL_driverOf_16 : decode cL_driverOf 16 = .ok (.ireturn, 1) := by decide +kernel
set_option maxRecDepth 20000 in
theorem ggL_charge_X1_charge : GoodIn wsL_charge wsX1_charge := goodIn_ca (goodIn_r _ [6, 7, 8, 9, 5, 10, 11, 12, 13, 14, 15, 16, 17, 18, 19, 20, 21, 22, 23, 24] (by decide +kernel) (by decide +kernel)) (goodIn_sub (fun _ h => List.mem_cons_of_mem _ (List.mem_append_right _ h)) (by decide +kernel))
set_option maxRecDepth 20000 in
theorem gL_charge_X1_charge : GoodIn wsL_charge (wsV RL 54 RX1 yX1_charge wsX1_charge) := goodIn_app (goodIn_of _ (by decide +kernel)) ggL_charge_X1_charge
theorem dL_charge_0 : decode cL_charge 0 = .ok (.aload_n 2, 1) := by decide +kernel
theorem dL_charge_1 : decode cL_charge 1 = .ok (.iconst 0, 1) := by decide +kernel
theorem dL_charge_2 : decode cL_charge 2 = .ok (.aload_n 0, 1) := by decide +kernel
theorem dL_charge_3 : decode cL_charge 3 = .ok (.iload_n 1, 1) := by decide +kernel
theorem dL_charge_4 : decode cL_charge 4 = .ok (.invokevirtual 54, 3) := by decide +kernel
theorem dL_charge_7 : decode cL_charge 7 = .ok (.i2l, 1) := by decide +kernel
theorem dL_charge_8 : decode cL_charge 8 = .ok (.lastore, 1) := by decide +kernel
theorem dL_charge_9 : decode cL_charge 9 = .ok (.goto 6, 3) := by decide +kernel
theorem dL_charge_12 : decode cL_charge 12 = .ok (.astore_n 3, 1) := by decide +kernel
theorem dL_charge_13 : decode cL_charge 13 = .ok (.iconst 1, 1) := by decide +kernel
theorem dL_charge_14 : decode cL_charge 14 = .ok (.ireturn, 1) := by decide +kernel
theorem dL_charge_15 : decode cL_charge 15 = .ok (.iconst 0, 1) := by decide +kernel
theorem dL_charge_16 : decode cL_charge 16 = .ok (.ireturn, 1) := by decide +kernel
set_option maxRecDepth 20000 in
theorem ggL_promised_X1_promised : GoodIn wsL_promised wsX1_promised := goodIn_ca (goodIn_r _ [6, 7, 8, 5, 9, 10, 11, 12, 13, 14, 15, 16, 17, 18, 19, 20, 21, 22, 23, 24, 25, 26, 27, 28, 29, 30, 31, 32, 33, 34, 35, 36, 37, 38] (by decide +kernel) (by decide +kernel)) (goodIn_sub (fun _ h => List.mem_cons_of_mem _ (List.mem_append_right _ h)) (by decide +kernel))
set_option maxRecDepth 20000 in
theorem gL_promised_X1_promised : GoodIn wsL_promised (wsV RL 57 RX1 yX1_promised wsX1_promised) := goodIn_app (goodIn_of _ (by decide +kernel)) ggL_promised_X1_promised
theorem dL_promised_0 : decode cL_promised 0 = .ok (.aload_n 2, 1) := by decide +kernel
theorem dL_promised_1 : decode cL_promised 1 = .ok (.iconst 0, 1) := by decide +kernel
theorem dL_promised_2 : decode cL_promised 2 = .ok (.aload_n 0, 1) := by decide +kernel
theorem dL_promised_3 : decode cL_promised 3 = .ok (.iload_n 1, 1) := by decide +kernel
theorem dL_promised_4 : decode cL_promised 4 = .ok (.invokevirtual 57, 3) := by decide +kernel
theorem dL_promised_7 : decode cL_promised 7 = .ok (.i2l, 1) := by decide +kernel
theorem dL_promised_8 : decode cL_promised 8 = .ok (.lastore, 1) := by decide +kernel
theorem dL_promised_9 : decode cL_promised 9 = .ok (.goto 6, 3) := by decide +kernel
theorem dL_promised_12 : decode cL_promised 12 = .ok (.astore_n 3, 1) := by decide +kernel
theorem dL_promised_13 : decode cL_promised 13 = .ok (.iconst 1, 1) := by decide +kernel
theorem dL_promised_14 : decode cL_promised 14 = .ok (.ireturn, 1) := by decide +kernel
theorem dL_promised_15 : decode cL_promised 15 = .ok (.iconst 0, 1) := by decide +kernel
theorem dL_promised_16 : decode cL_promised 16 = .ok (.ireturn, 1) := by decide +kernel
set_option maxRecDepth 20000 in
theorem ggL_minutesOf_X1_minutesOf : GoodIn wsL_minutesOf wsX1_minutesOf := goodIn_ca (goodIn_r _ [6, 7, 8, 5, 9, 10, 11, 12, 13, 14, 15, 16, 17, 18, 19, 20, 21, 22, 23, 24, 25, 26, 27, 28, 29, 30, 31, 32, 33, 34, 35, 36, 37, 38, 39, 40, 41, 42, 43, 44, 45, 46, 47, 48, 49, 50, 51] (by decide +kernel) (by decide +kernel)) (goodIn_sub (fun _ h => List.mem_cons_of_mem _ (List.mem_append_right _ h)) (by decide +kernel))
set_option maxRecDepth 20000 in
theorem gL_minutesOf_X1_minutesOf : GoodIn wsL_minutesOf (wsV RL 60 RX1 yX1_minutesOf wsX1_minutesOf) := goodIn_app (goodIn_of _ (by decide +kernel)) ggL_minutesOf_X1_minutesOf
theorem dL_minutesOf_0 : decode cL_minutesOf 0 = .ok (.aload_n 3, 1) := by decide +kernel
theorem dL_minutesOf_1 : decode cL_minutesOf 1 = .ok (.iconst 0, 1) := by decide +kernel
theorem dL_minutesOf_2 : decode cL_minutesOf 2 = .ok (.aload_n 0, 1) := by decide +kernel
theorem dL_minutesOf_3 : decode cL_minutesOf 3 = .ok (.iload_n 1, 1) := by decide +kernel
theorem dL_minutesOf_4 : decode cL_minutesOf 4 = .ok (.iload_n 2, 1) := by decide +kernel
theorem dL_minutesOf_5 : decode cL_minutesOf 5 = .ok (.invokevirtual 60, 3) := by decide +kernel
theorem dL_minutesOf_8 : decode cL_minutesOf 8 = .ok (.i2l, 1) := by decide +kernel
theorem dL_minutesOf_9 : decode cL_minutesOf 9 = .ok (.lastore, 1) := by decide +kernel
theorem dL_minutesOf_10 : decode cL_minutesOf 10 = .ok (.goto 7, 3) := by decide +kernel
theorem dL_minutesOf_13 : decode cL_minutesOf 13 = .ok (.astore 4, 2) := by decide +kernel
theorem dL_minutesOf_15 : decode cL_minutesOf 15 = .ok (.iconst 1, 1) := by decide +kernel
theorem dL_minutesOf_16 : decode cL_minutesOf 16 = .ok (.ireturn, 1) := by decide +kernel
theorem dL_minutesOf_17 : decode cL_minutesOf 17 = .ok (.iconst 0, 1) := by decide +kernel
theorem dL_minutesOf_18 : decode cL_minutesOf 18 = .ok (.ireturn, 1) := by decide +kernel
set_option maxRecDepth 20000 in
theorem ggL_law_X1_init : GoodIn wsL_law wsX1_init := goodIn_r _ [9, 10, 11, 12, 13, 14, 15, 16, 17, 18, 19, 20, 21, 22, 23, 24, 25, 26, 27, 28, 29, 30, 31, 32, 33, 34, 35, 460, 461, 462, 463, 464, 465, 466, 467, 468, 469, 470, 471, 490, 491, 492, 493, 494, 495] (by decide +kernel) (by decide +kernel)
set_option maxRecDepth 20000 in
theorem gL_law_X1_init : GoodIn wsL_law (wsX1_init) := ggL_law_X1_init
set_option maxRecDepth 20000 in
theorem ggL_law_X2_init : GoodIn wsL_law wsX2_init := goodIn_r _ [38, 39, 11, 12, 15, 40, 41, 42, 43, 44, 45, 46, 17, 47, 48, 49, 50, 51, 52, 472, 473, 474, 475, 476, 477, 478, 479, 480, 481, 482, 483, 484, 485, 486, 487, 488, 489] (by decide +kernel) (by decide +kernel)
set_option maxRecDepth 20000 in
theorem gL_law_X2_init : GoodIn wsL_law (wsX2_init) := ggL_law_X2_init
set_option maxRecDepth 20000 in
theorem ggL_law_L_run : GoodIn wsL_law wsL_run := goodIn_ca (goodIn_ca (goodIn_r _ [56, 57, 58, 59, 60, 61, 2, 62, 63, 64, 23, 24, 14, 65, 66, 67, 68, 69, 70, 71, 72, 29, 73, 74, 75, 76, 460, 461, 462, 463, 464, 465, 466, 467, 468, 469, 470, 471, 490, 491, 492, 493, 494, 495] (by decide +kernel) (by decide +kernel)) (goodIn_sub (fun _ h => List.mem_append_left _ (List.mem_append_left _ (List.mem_append_right _ h))) (by decide +kernel))) (goodIn_sub (fun _ h => List.mem_append_left _ (List.mem_append_right _ h)) (by decide +kernel))
set_option maxRecDepth 20000 in
theorem gL_law_L_run : GoodIn wsL_law (va_wsS RL 67 yL_run wsL_run) := goodIn_app (goodIn_of _ (by decide +kernel)) ggL_law_L_run
set_option maxRecDepth 20000 in
theorem ggL_law_X2_run : GoodIn wsL_law wsX2_run := goodIn_r _ [80, 81, 82, 83, 40, 41, 42, 43, 84, 85, 5, 86, 87, 88, 89, 90, 44, 45, 472, 473, 474, 475, 476, 477, 478, 479, 480, 481, 482, 483, 484, 485, 486, 487, 488, 489] (by decide +kernel) (by decide +kernel)
set_option maxRecDepth 20000 in
theorem gL_law_X2_run : GoodIn wsL_law (wsV RL 72 RX2 yX2_run wsX2_run) := goodIn_app (goodIn_of _ (by decide +kernel)) ggL_law_X2_run
set_option maxRecDepth 20000 in
theorem ggL_law_X2_thrown : GoodIn wsL_law wsX2_thrown := goodIn_r _ [94, 83, 472, 473, 474, 475, 476, 477, 478, 479, 480, 481, 482, 483, 484, 485, 486, 487, 488, 489] (by decide +kernel) (by decide +kernel)
set_option maxRecDepth 20000 in
theorem gL_law_X2_thrown : GoodIn wsL_law (wsV RL 73 RX2 yX2_thrown wsX2_thrown) := goodIn_app (goodIn_of _ (by decide +kernel)) ggL_law_X2_thrown
set_option maxRecDepth 20000 in
theorem ggL_law_L_lead : GoodIn wsL_law wsL_lead := goodIn_ca (goodIn_ca (goodIn_r _ [97, 98, 57, 99, 100, 101, 2, 102, 26, 23, 27, 103, 104, 105, 106, 107, 65, 66, 67, 68, 69, 108, 109, 110, 111, 460, 461, 462, 463, 464, 465, 466, 467, 468, 469, 470, 471] (by decide +kernel) (by decide +kernel)) (goodIn_sub (fun _ h => List.mem_append_right _ h) (by decide +kernel))) (goodIn_sub (fun _ h => List.mem_append_left _ (List.mem_append_right _ h)) (by decide +kernel))
set_option maxRecDepth 20000 in
theorem gL_law_L_lead : GoodIn wsL_law (va_wsS RL 77 yL_lead wsL_lead) := goodIn_app (goodIn_of _ (by decide +kernel)) ggL_law_L_lead
set_option maxRecDepth 20000 in
theorem ggL_law_X2_lead : GoodIn wsL_law wsX2_lead := goodIn_r _ [115, 83, 52, 81, 116, 84, 85, 5, 86, 117, 118, 119, 120, 472, 473, 474, 475, 476, 477, 478, 479, 480, 481, 482, 483, 484, 485, 486, 487, 488, 489] (by decide +kernel) (by decide +kernel)
set_option maxRecDepth 20000 in
theorem gL_law_X2_lead : GoodIn wsL_law (wsV RL 80 RX2 yX2_lead wsX2_lead) := goodIn_app (goodIn_of _ (by decide +kernel)) ggL_law_X2_lead
set_option maxRecDepth 20000 in
theorem ggL_law_L_order : GoodIn wsL_law wsL_order := goodIn_ca (goodIn_ca (goodIn_ca (goodIn_r _ [123, 98, 57, 58, 124, 125, 126, 2, 127, 63, 64, 24, 22, 14, 103, 104, 105, 106, 107, 65, 66, 67, 68, 69, 108, 109, 110, 111, 23, 27, 26, 128, 129, 130, 131, 132, 133, 134, 135, 136, 137, 18, 16, 138, 139, 140, 141, 142, 143, 144, 145, 146, 29, 147, 34, 33, 148, 149, 150, 151, 74, 75, 152, 153, 154, 155, 19, 156, 157, 158, 159, 160, 161, 162, 163, 164, 165, 166, 167, 35, 168, 169, 170, 171, 172, 173, 174, 175, 176, 177, 178, 179, 180, 181, 182, 183, 184, 25, 21, 460, 461, 462, 463, 464, 465, 466, 467, 468, 469, 470, 471, 490, 491, 492, 493, 494, 495] (by decide +kernel) (by decide +kernel)) (goodIn_sub (fun _ h => List.mem_append_left _ (List.mem_append_left _ (List.mem_append_right _ h))) (by decide +kernel))) (goodIn_sub (fun _ h => List.mem_append_right _ h) (by decide +kernel))) (goodIn_sub (fun _ h => List.mem_append_left _ (List.mem_append_right _ h)) (by decide +kernel))
set_option maxRecDepth 20000 in
theorem gL_law_L_order : GoodIn wsL_law (va_wsS RL 81 yL_order wsL_order) := goodIn_app (goodIn_of _ (by decide +kernel)) ggL_law_L_order
set_option maxRecDepth 20000 in
theorem ggL_law_X2_order : GoodIn wsL_law wsX2_order := goodIn_r _ [188, 83, 51, 43, 40, 81, 44, 45, 50, 189, 84, 85, 5, 86, 190, 191, 192, 193, 82, 194, 195, 196, 197, 198, 199, 117, 118, 119, 120, 52, 116, 200, 201, 202, 203, 47, 46, 42, 41, 204, 205, 206, 207, 208, 209, 210, 211, 48, 212, 213, 214, 215, 472, 473, 474, 475, 476, 477, 478, 479, 480, 481, 482, 483, 484, 485, 486, 487, 488, 489] (by decide +kernel) (by decide +kernel)
set_option maxRecDepth 20000 in
theorem gL_law_X2_order : GoodIn wsL_law (wsV RL 84 RX2 yX2_order wsX2_order) := goodIn_app (goodIn_of _ (by decide +kernel)) ggL_law_X2_order
set_option maxRecDepth 20000 in
theorem ggL_law_L_breaks : GoodIn wsL_law wsL_breaks := goodIn_ca (goodIn_r _ [218, 98, 219, 220, 221, 2, 222, 18, 103, 104, 105, 106, 107, 223, 224, 225, 226, 20, 227, 228, 229, 230, 24, 14, 132, 143, 231, 232, 233, 29, 234, 33, 34, 35, 235, 236, 237, 238, 239, 240, 241, 242, 138, 243, 244, 245, 246, 134, 135, 136, 137, 16, 139, 140, 141, 142, 144, 145, 146, 147, 148, 149, 150, 151, 74, 75, 247, 248, 249, 250, 460, 461, 462, 463, 464, 465, 466, 467, 468, 469, 470, 471, 490, 491, 492, 493, 494, 495] (by decide +kernel) (by decide +kernel)) (goodIn_sub (fun _ h => List.mem_append_right _ h) (by decide +kernel))
set_option maxRecDepth 20000 in
theorem gL_law_L_breaks : GoodIn wsL_law (va_wsS RL 85 yL_breaks wsL_breaks) := goodIn_app (goodIn_of _ (by decide +kernel)) ggL_law_L_breaks
set_option maxRecDepth 20000 in
theorem ggL_law_X2_breaks : GoodIn wsL_law wsX2_breaks := goodIn_r _ [254, 83, 47, 44, 46, 42, 194, 195, 5, 196, 84, 85, 86, 255, 256, 257, 258, 49, 259, 260, 261, 262, 82, 45, 43, 87, 88, 89, 90, 200, 201, 202, 203, 40, 41, 204, 205, 206, 207, 263, 264, 265, 266, 472, 473, 474, 475, 476, 477, 478, 479, 480, 481, 482, 483, 484, 485, 486, 487, 488, 489] (by decide +kernel) (by decide +kernel)
set_option maxRecDepth 20000 in
theorem gL_law_X2_breaks : GoodIn wsL_law (wsV RL 88 RX2 yX2_breaks wsX2_breaks) := goodIn_app (goodIn_of _ (by decide +kernel)) ggL_law_X2_breaks
set_option maxRecDepth 20000 in
theorem ggL_law_L_ails : GoodIn wsL_law wsL_ails := goodIn_ca (goodIn_r _ [269, 98, 270, 271, 272, 2, 273, 19, 103, 104, 105, 106, 107, 274, 275, 276, 277, 24, 14, 132, 278, 231, 232, 233, 29, 234, 33, 34, 35, 279, 280, 281, 282, 283, 284, 285, 286, 287, 288, 289, 290, 152, 153, 154, 155, 156, 157, 158, 159, 74, 160, 161, 162, 163, 164, 165, 166, 167, 168, 169, 170, 171, 172, 75, 173, 174, 175, 176, 460, 461, 462, 463, 464, 465, 466, 467, 468, 469, 470, 471, 490, 491, 492, 493, 494, 495] (by decide +kernel) (by decide +kernel)) (goodIn_sub (fun _ h => List.mem_append_right _ h) (by decide +kernel))
set_option maxRecDepth 20000 in
theorem gL_law_L_ails : GoodIn wsL_law (va_wsS RL 89 yL_ails wsL_ails) := goodIn_app (goodIn_of _ (by decide +kernel)) ggL_law_L_ails
set_option maxRecDepth 20000 in
theorem ggL_law_X2_ails : GoodIn wsL_law wsX2_ails := goodIn_r _ [294, 83, 48, 45, 197, 198, 5, 199, 84, 85, 86, 259, 260, 261, 262, 82, 44, 43, 87, 88, 89, 90, 208, 209, 210, 211, 41, 40, 212, 213, 214, 215, 263, 264, 265, 266, 472, 473, 474, 475, 476, 477, 478, 479, 480, 481, 482, 483, 484, 485, 486, 487, 488, 489] (by decide +kernel) (by decide +kernel)
set_option maxRecDepth 20000 in
theorem gL_law_X2_ails : GoodIn wsL_law (wsV RL 91 RX2 yX2_ails wsX2_ails) := goodIn_app (goodIn_of _ (by decide +kernel)) ggL_law_X2_ails
set_option maxRecDepth 20000 in
theorem ggL_law_L_plug : GoodIn wsL_law wsL_plug := goodIn_ca (goodIn_ca (goodIn_r _ [297, 98, 58, 298, 299, 300, 2, 301, 63, 64, 20, 103, 104, 105, 106, 107, 302, 303, 304, 305, 24, 14, 132, 143, 223, 224, 225, 226, 460, 461, 462, 463, 464, 465, 466, 467, 468, 469, 470, 471, 490, 491, 492, 493, 494, 495] (by decide +kernel) (by decide +kernel)) (goodIn_sub (fun _ h => List.mem_append_left _ (List.mem_append_left _ (List.mem_append_right _ h))) (by decide +kernel))) (goodIn_sub (fun _ h => List.mem_append_right _ h) (by decide +kernel))
set_option maxRecDepth 20000 in
theorem gL_law_L_plug : GoodIn wsL_law (va_wsS RL 92 yL_plug wsL_plug) := goodIn_app (goodIn_of _ (by decide +kernel)) ggL_law_L_plug
set_option maxRecDepth 20000 in
theorem ggL_law_X2_plug : GoodIn wsL_law wsX2_plug := goodIn_r _ [309, 83, 49, 194, 195, 5, 196, 84, 85, 86, 310, 311, 312, 313, 82, 43, 44, 255, 256, 257, 258, 472, 473, 474, 475, 476, 477, 478, 479, 480, 481, 482, 483, 484, 485, 486, 487, 488, 489] (by decide +kernel) (by decide +kernel)
set_option maxRecDepth 20000 in
theorem gL_law_X2_plug : GoodIn wsL_law (wsV RL 94 RX2 yX2_plug wsX2_plug) := goodIn_app (goodIn_of _ (by decide +kernel)) ggL_law_X2_plug
set_option maxRecDepth 20000 in
theorem ggL_law_L_advance : GoodIn wsL_law wsL_advance := goodIn_ca (goodIn_ca (goodIn_r _ [316, 57, 58, 317, 318, 319, 2, 320, 63, 64, 23, 65, 66, 67, 68, 69, 321, 322, 323, 324, 325, 326, 327, 328, 20, 16, 329, 330, 331, 332, 24, 14, 132, 333, 334, 335, 336, 337, 133, 338, 339, 340, 341, 143, 138, 247, 248, 249, 250, 223, 224, 225, 226, 231, 232, 233, 29, 234, 33, 34, 35, 460, 461, 462, 463, 464, 465, 466, 467, 468, 469, 470, 471, 490, 491, 492, 493, 494, 495] (by decide +kernel) (by decide +kernel)) (goodIn_sub (fun _ h => List.mem_append_left _ (List.mem_append_left _ (List.mem_append_right _ h))) (by decide +kernel))) (goodIn_sub (fun _ h => List.mem_append_left _ (List.mem_append_right _ h)) (by decide +kernel))
set_option maxRecDepth 20000 in
theorem gL_law_L_advance : GoodIn wsL_law (va_wsS RL 95 yL_advance wsL_advance) := goodIn_app (goodIn_of _ (by decide +kernel)) ggL_law_L_advance
set_option maxRecDepth 20000 in
theorem ggL_law_X2_advance : GoodIn wsL_law wsX2_advance := goodIn_r _ [345, 81, 83, 49, 46, 82, 43, 41, 84, 85, 5, 86, 346, 347, 348, 349, 40, 44, 42, 255, 256, 257, 258, 263, 264, 265, 266, 87, 88, 89, 90, 45, 472, 473, 474, 475, 476, 477, 478, 479, 480, 481, 482, 483, 484, 485, 486, 487, 488, 489] (by decide +kernel) (by decide +kernel)
set_option maxRecDepth 20000 in
theorem gL_law_X2_advance : GoodIn wsL_law (wsV RL 98 RX2 yX2_advance wsX2_advance) := goodIn_app (goodIn_of _ (by decide +kernel)) ggL_law_X2_advance
set_option maxRecDepth 20000 in
theorem ggL_law_X1_minute : GoodIn wsL_law wsX1_minute := goodIn_r _ [353, 23, 460, 461, 462, 463, 464, 465, 466, 467, 468, 469, 470, 471] (by decide +kernel) (by decide +kernel)
set_option maxRecDepth 20000 in
theorem gL_law_X1_minute : GoodIn wsL_law (wsV RL 99 RX1 yX1_minute wsX1_minute) := goodIn_app (goodIn_of _ (by decide +kernel)) ggL_law_X1_minute
set_option maxRecDepth 20000 in
theorem ggL_law_X2_minute : GoodIn wsL_law wsX2_minute := goodIn_r _ [357, 83, 81, 472, 473, 474, 475, 476, 477, 478, 479, 480, 481, 482, 483, 484, 485, 486, 487, 488, 489] (by decide +kernel) (by decide +kernel)
set_option maxRecDepth 20000 in
theorem gL_law_X2_minute : GoodIn wsL_law (wsV RL 102 RX2 yX2_minute wsX2_minute) := goodIn_app (goodIn_of _ (by decide +kernel)) ggL_law_X2_minute
set_option maxRecDepth 20000 in
theorem ggL_law_X1_leader : GoodIn wsL_law wsX1_leader := goodIn_r _ [111, 23, 27, 26, 460, 461, 462, 463, 464, 465, 466, 467, 468, 469, 470, 471] (by decide +kernel) (by decide +kernel)
set_option maxRecDepth 20000 in
theorem gL_law_X1_leader : GoodIn wsL_law (wsV RL 103 RX1 yX1_leader wsX1_leader) := goodIn_app (goodIn_of _ (by decide +kernel)) ggL_law_X1_leader
set_option maxRecDepth 20000 in
theorem ggL_law_X2_leader : GoodIn wsL_law wsX2_leader := goodIn_r _ [362, 83, 117, 118, 119, 5, 120, 52, 81, 116, 472, 473, 474, 475, 476, 477, 478, 479, 480, 481, 482, 483, 484, 485, 486, 487, 488, 489] (by decide +kernel) (by decide +kernel)
set_option maxRecDepth 20000 in
theorem gL_law_X2_leader : GoodIn wsL_law (wsV RL 106 RX2 yX2_leader wsX2_leader) := goodIn_app (goodIn_of _ (by decide +kernel)) ggL_law_X2_leader
set_option maxRecDepth 20000 in
theorem ggL_law_X1_runs : GoodIn wsL_law wsX1_runs := goodIn_r _ [366, 24, 460, 461, 462, 463, 464, 465, 466, 467, 468, 469, 470, 471] (by decide +kernel) (by decide +kernel)
set_option maxRecDepth 20000 in
theorem gL_law_X1_runs : GoodIn wsL_law (wsV RL 107 RX1 yX1_runs wsX1_runs) := goodIn_app (goodIn_of _ (by decide +kernel)) ggL_law_X1_runs
set_option maxRecDepth 20000 in
theorem ggL_law_X2_runs : GoodIn wsL_law wsX2_runs := goodIn_r _ [370, 83, 82, 472, 473, 474, 475, 476, 477, 478, 479, 480, 481, 482, 483, 484, 485, 486, 487, 488, 489] (by decide +kernel) (by decide +kernel)
set_option maxRecDepth 20000 in
theorem gL_law_X2_runs : GoodIn wsL_law (wsV RL 110 RX2 yX2_runs wsX2_runs) := goodIn_app (goodIn_of _ (by decide +kernel)) ggL_law_X2_runs
set_option maxRecDepth 20000 in
theorem ggL_law_X1_orders : GoodIn wsL_law wsX1_orders := goodIn_r _ [374, 25, 460, 461, 462, 463, 464, 465, 466, 467, 468, 469, 470, 471] (by decide +kernel) (by decide +kernel)
set_option maxRecDepth 20000 in
theorem gL_law_X1_orders : GoodIn wsL_law (wsV RL 111 RX1 yX1_orders wsX1_orders) := goodIn_app (goodIn_of _ (by decide +kernel)) ggL_law_X1_orders
set_option maxRecDepth 20000 in
theorem ggL_law_X2_orders : GoodIn wsL_law wsX2_orders := goodIn_r _ [378, 83, 189, 472, 473, 474, 475, 476, 477, 478, 479, 480, 481, 482, 483, 484, 485, 486, 487, 488, 489] (by decide +kernel) (by decide +kernel)
set_option maxRecDepth 20000 in
theorem gL_law_X2_orders : GoodIn wsL_law (wsV RL 114 RX2 yX2_orders wsX2_orders) := goodIn_app (goodIn_of _ (by decide +kernel)) ggL_law_X2_orders
set_option maxRecDepth 20000 in
theorem ggL_law_L_orderAt : GoodIn wsL_law wsL_orderAt := goodIn_ca (goodIn_r _ [381, 98, 382, 383, 384, 2, 385, 25, 21, 103, 104, 105, 106, 107, 460, 461, 462, 463, 464, 465, 466, 467, 468, 469, 470, 471] (by decide +kernel) (by decide +kernel)) (goodIn_sub (fun _ h => List.mem_append_right _ h) (by decide +kernel))
set_option maxRecDepth 20000 in
theorem gL_law_L_orderAt : GoodIn wsL_law (va_wsS RL 115 yL_orderAt wsL_orderAt) := goodIn_app (goodIn_of _ (by decide +kernel)) ggL_law_L_orderAt
set_option maxRecDepth 20000 in
theorem ggL_law_X2_orderAt : GoodIn wsL_law wsX2_orderAt := goodIn_r _ [389, 189, 83, 50, 84, 85, 5, 86, 472, 473, 474, 475, 476, 477, 478, 479, 480, 481, 482, 483, 484, 485, 486, 487, 488, 489] (by decide +kernel) (by decide +kernel)
set_option maxRecDepth 20000 in
theorem gL_law_X2_orderAt : GoodIn wsL_law (wsV RL 117 RX2 yX2_orderAt wsX2_orderAt) := goodIn_app (goodIn_of _ (by decide +kernel)) ggL_law_X2_orderAt
set_option maxRecDepth 20000 in
theorem ggL_law_L_stateOf : GoodIn wsL_law wsL_stateOf := goodIn_ca (goodIn_r _ [392, 98, 393, 394, 395, 2, 396, 24, 14, 132, 103, 104, 105, 106, 107, 460, 461, 462, 463, 464, 465, 466, 467, 468, 469, 470, 471, 490, 491, 492, 493, 494, 495] (by decide +kernel) (by decide +kernel)) (goodIn_sub (fun _ h => List.mem_append_right _ h) (by decide +kernel))
set_option maxRecDepth 20000 in
theorem gL_law_L_stateOf : GoodIn wsL_law (va_wsS RL 118 yL_stateOf wsL_stateOf) := goodIn_app (goodIn_of _ (by decide +kernel)) ggL_law_L_stateOf
set_option maxRecDepth 20000 in
theorem ggL_law_X2_stateOf : GoodIn wsL_law wsX2_stateOf := goodIn_r _ [400, 43, 401, 402, 403, 5, 404, 83, 190, 191, 192, 193, 82, 84, 85, 86, 472, 473, 474, 475, 476, 477, 478, 479, 480, 481, 482, 483, 484, 485, 486, 487, 488, 489] (by decide +kernel) (by decide +kernel)
set_option maxRecDepth 20000 in
theorem gL_law_X2_stateOf : GoodIn wsL_law (wsV RL 120 RX2 yX2_stateOf wsX2_stateOf) := goodIn_app (goodIn_of _ (by decide +kernel)) ggL_law_X2_stateOf
set_option maxRecDepth 20000 in
theorem ggL_law_L_busOf : GoodIn wsL_law wsL_busOf := goodIn_ca (goodIn_r _ [407, 98, 408, 409, 410, 2, 411, 24, 14, 143, 103, 104, 105, 106, 107, 460, 461, 462, 463, 464, 465, 466, 467, 468, 469, 470, 471, 490, 491, 492, 493, 494, 495] (by decide +kernel) (by decide +kernel)) (goodIn_sub (fun _ h => List.mem_append_right _ h) (by decide +kernel))
set_option maxRecDepth 20000 in
theorem gL_law_L_busOf : GoodIn wsL_law (va_wsS RL 121 yL_busOf wsL_busOf) := goodIn_app (goodIn_of _ (by decide +kernel)) ggL_law_L_busOf
set_option maxRecDepth 20000 in
theorem ggL_law_X2_busOf : GoodIn wsL_law wsX2_busOf := goodIn_r _ [415, 44, 401, 402, 403, 5, 404, 83, 190, 191, 192, 193, 82, 84, 85, 86, 472, 473, 474, 475, 476, 477, 478, 479, 480, 481, 482, 483, 484, 485, 486, 487, 488, 489] (by decide +kernel) (by decide +kernel)
set_option maxRecDepth 20000 in
theorem gL_law_X2_busOf : GoodIn wsL_law (wsV RL 123 RX2 yX2_busOf wsX2_busOf) := goodIn_app (goodIn_of _ (by decide +kernel)) ggL_law_X2_busOf
set_option maxRecDepth 20000 in
theorem ggL_law_L_driverOf : GoodIn wsL_law wsL_driverOf := goodIn_ca (goodIn_r _ [418, 98, 419, 420, 421, 2, 422, 24, 14, 278, 103, 104, 105, 106, 107, 460, 461, 462, 463, 464, 465, 466, 467, 468, 469, 470, 471, 490, 491, 492, 493, 494, 495] (by decide +kernel) (by decide +kernel)) (goodIn_sub (fun _ h => List.mem_append_right _ h) (by decide +kernel))
set_option maxRecDepth 20000 in
theorem gL_law_L_driverOf : GoodIn wsL_law (va_wsS RL 124 yL_driverOf wsL_driverOf) := goodIn_app (goodIn_of _ (by decide +kernel)) ggL_law_L_driverOf
set_option maxRecDepth 20000 in
theorem ggL_law_X2_driverOf : GoodIn wsL_law wsX2_driverOf := goodIn_r _ [426, 45, 401, 402, 403, 5, 404, 83, 190, 191, 192, 193, 82, 84, 85, 86, 472, 473, 474, 475, 476, 477, 478, 479, 480, 481, 482, 483, 484, 485, 486, 487, 488, 489] (by decide +kernel) (by decide +kernel)
set_option maxRecDepth 20000 in
theorem gL_law_X2_driverOf : GoodIn wsL_law (wsV RL 126 RX2 yX2_driverOf wsX2_driverOf) := goodIn_app (goodIn_of _ (by decide +kernel)) ggL_law_X2_driverOf
set_option maxRecDepth 20000 in
theorem ggL_law_L_charge : GoodIn wsL_law wsL_charge := goodIn_ca (goodIn_r _ [429, 98, 430, 431, 432, 2, 433, 16, 103, 104, 105, 106, 107, 460, 461, 462, 463, 464, 465, 466, 467, 468, 469, 470, 471] (by decide +kernel) (by decide +kernel)) (goodIn_sub (fun _ h => List.mem_append_right _ h) (by decide +kernel))
set_option maxRecDepth 20000 in
theorem gL_law_L_charge : GoodIn wsL_law (va_wsS RL 127 yL_charge wsL_charge) := goodIn_app (goodIn_of _ (by decide +kernel)) ggL_law_L_charge
set_option maxRecDepth 20000 in
theorem ggL_law_X2_charge : GoodIn wsL_law wsX2_charge := goodIn_r _ [437, 83, 46, 194, 195, 5, 196, 84, 85, 86, 472, 473, 474, 475, 476, 477, 478, 479, 480, 481, 482, 483, 484, 485, 486, 487, 488, 489] (by decide +kernel) (by decide +kernel)
set_option maxRecDepth 20000 in
theorem gL_law_X2_charge : GoodIn wsL_law (wsV RL 129 RX2 yX2_charge wsX2_charge) := goodIn_app (goodIn_of _ (by decide +kernel)) ggL_law_X2_charge
set_option maxRecDepth 20000 in
theorem ggL_law_L_promised : GoodIn wsL_law wsL_promised := goodIn_ca (goodIn_r _ [440, 98, 441, 442, 443, 2, 444, 103, 104, 105, 106, 107, 139, 140, 141, 142, 24, 14, 143, 132, 138, 460, 461, 462, 463, 464, 465, 466, 467, 468, 469, 470, 471, 490, 491, 492, 493, 494, 495] (by decide +kernel) (by decide +kernel)) (goodIn_sub (fun _ h => List.mem_append_right _ h) (by decide +kernel))
set_option maxRecDepth 20000 in
theorem gL_law_L_promised : GoodIn wsL_law (va_wsS RL 130 yL_promised wsL_promised) := goodIn_app (goodIn_of _ (by decide +kernel)) ggL_law_L_promised
set_option maxRecDepth 20000 in
theorem ggL_law_X2_promised : GoodIn wsL_law wsX2_promised := goodIn_r _ [448, 83, 194, 195, 5, 196, 84, 85, 86, 204, 205, 206, 207, 82, 43, 44, 42, 472, 473, 474, 475, 476, 477, 478, 479, 480, 481, 482, 483, 484, 485, 486, 487, 488, 489] (by decide +kernel) (by decide +kernel)
set_option maxRecDepth 20000 in
theorem gL_law_X2_promised : GoodIn wsL_law (wsV RL 132 RX2 yX2_promised wsX2_promised) := goodIn_app (goodIn_of _ (by decide +kernel)) ggL_law_X2_promised
set_option maxRecDepth 20000 in
theorem ggL_law_L_minutesOf : GoodIn wsL_law wsL_minutesOf := goodIn_ca (goodIn_r _ [451, 98, 452, 453, 454, 2, 455, 103, 104, 105, 106, 107, 160, 161, 162, 163, 24, 14, 164, 165, 166, 29, 167, 35, 168, 157, 158, 159, 74, 169, 170, 171, 172, 75, 460, 461, 462, 463, 464, 465, 466, 467, 468, 469, 470, 471, 490, 491, 492, 493, 494, 495] (by decide +kernel) (by decide +kernel)) (goodIn_sub (fun _ h => List.mem_append_right _ h) (by decide +kernel))
set_option maxRecDepth 20000 in
theorem gL_law_L_minutesOf : GoodIn wsL_law (va_wsS RL 133 yL_minutesOf wsL_minutesOf) := goodIn_app (goodIn_of _ (by decide +kernel)) ggL_law_L_minutesOf
set_option maxRecDepth 20000 in
theorem ggL_law_X2_minutesOf : GoodIn wsL_law wsX2_minutesOf := goodIn_r _ [459, 83, 82, 45, 40, 41, 197, 198, 5, 199, 84, 85, 86, 212, 213, 214, 215, 43, 472, 473, 474, 475, 476, 477, 478, 479, 480, 481, 482, 483, 484, 485, 486, 487, 488, 489] (by decide +kernel) (by decide +kernel)
set_option maxRecDepth 20000 in
theorem gL_law_X2_minutesOf : GoodIn wsL_law (wsV RL 135 RX2 yX2_minutesOf wsX2_minutesOf) := goodIn_app (goodIn_of _ (by decide +kernel)) ggL_law_X2_minutesOf
theorem dL_law_0 : decode cL_law 0 = .ok (.new 8, 3) := by decide +kernel
theorem dL_law_3 : decode cL_law 3 = .ok (.dup, 1) := by decide +kernel
theorem dL_law_4 : decode cL_law 4 = .ok (.invokespecial 63, 3) := by decide +kernel
theorem dL_law_7 : decode cL_law 7 = .ok (.astore_n 1, 1) := by decide +kernel
theorem dL_law_8 : decode cL_law 8 = .ok (.new 64, 3) := by decide +kernel
theorem dL_law_11 : decode cL_law 11 = .ok (.dup, 1) := by decide +kernel
theorem dL_law_12 : decode cL_law 12 = .ok (.invokespecial 66, 3) := by decide +kernel
theorem dL_law_15 : decode cL_law 15 = .ok (.astore_n 2, 1) := by decide +kernel
theorem dL_law_16 : decode cL_law 16 = .ok (.iconst 1, 1) := by decide +kernel
theorem dL_law_17 : decode cL_law 17 = .ok (.newarray .long, 2) := by decide +kernel
theorem dL_law_19 : decode cL_law 19 = .ok (.astore_n 3, 1) := by decide +kernel
theorem dL_law_20 : decode cL_law 20 = .ok (.iconst 0, 1) := by decide +kernel
theorem dL_law_21 : decode cL_law 21 = .ok (.istore 4, 2) := by decide +kernel
theorem dL_law_23 : decode cL_law 23 = .ok (.iload 4, 2) := by decide +kernel
theorem dL_law_25 : decode cL_law 25 = .ok (.aload_n 0, 1) := by decide +kernel
theorem dL_law_26 : decode cL_law 26 = .ok (.arraylength, 1) := by decide +kernel
theorem dL_law_27 : decode cL_law 27 = .ok (.bipush 6, 2) := by decide +kernel
theorem dL_law_29 : decode cL_law 29 = .ok (.isub, 1) := by decide +kernel
theorem dL_law_30 : decode cL_law 30 = .ok (.if_icmp .gt 1125, 3) := by decide +kernel
theorem dL_law_33 : decode cL_law 33 = .ok (.aload_n 0, 1) := by decide +kernel
theorem dL_law_34 : decode cL_law 34 = .ok (.iload 4, 2) := by decide +kernel
theorem dL_law_36 : decode cL_law 36 = .ok (.iaload, 1) := by decide +kernel
theorem dL_law_37 : decode cL_law 37 = .ok (.bipush 31, 2) := by decide +kernel
theorem dL_law_39 : decode cL_law 39 = .ok (.iand, 1) := by decide +kernel
theorem dL_law_40 : decode cL_law 40 = .ok (.tableswitch 1109 0 17 #[88, 168, 243, 347, 438, 529, 597, 653, 666, 679, 692, 705, 761, 817, 873, 929, 985, 1041], 88) := by decide +kernel
theorem dL_law_128 : decode cL_law 128 = .ok (.aload_n 1, 1) := by decide +kernel
theorem dL_law_129 : decode cL_law 129 = .ok (.aload_n 0, 1) := by decide +kernel
theorem dL_law_130 : decode cL_law 130 = .ok (.iload 4, 2) := by decide +kernel
theorem dL_law_132 : decode cL_law 132 = .ok (.iconst 1, 1) := by decide +kernel
theorem dL_law_133 : decode cL_law 133 = .ok (.iadd, 1) := by decide +kernel
theorem dL_law_134 : decode cL_law 134 = .ok (.iaload, 1) := by decide +kernel
theorem dL_law_135 : decode cL_law 135 = .ok (.aload_n 0, 1) := by decide +kernel
theorem dL_law_136 : decode cL_law 136 = .ok (.iload 4, 2) := by decide +kernel
theorem dL_law_138 : decode cL_law 138 = .ok (.iconst 2, 1) := by decide +kernel
theorem dL_law_139 : decode cL_law 139 = .ok (.iadd, 1) := by decide +kernel
theorem dL_law_140 : decode cL_law 140 = .ok (.iaload, 1) := by decide +kernel
theorem dL_law_141 : decode cL_law 141 = .ok (.aload_n 0, 1) := by decide +kernel
theorem dL_law_142 : decode cL_law 142 = .ok (.iload 4, 2) := by decide +kernel
theorem dL_law_144 : decode cL_law 144 = .ok (.iconst 3, 1) := by decide +kernel
theorem dL_law_145 : decode cL_law 145 = .ok (.iadd, 1) := by decide +kernel
theorem dL_law_146 : decode cL_law 146 = .ok (.iaload, 1) := by decide +kernel
theorem dL_law_147 : decode cL_law 147 = .ok (.aload_n 3, 1) := by decide +kernel
theorem dL_law_148 : decode cL_law 148 = .ok (.invokestatic 67, 3) := by decide +kernel
theorem dL_law_151 : decode cL_law 151 = .ok (.istore 5, 2) := by decide +kernel
theorem dL_law_153 : decode cL_law 153 = .ok (.aload_n 2, 1) := by decide +kernel
theorem dL_law_154 : decode cL_law 154 = .ok (.aload_n 0, 1) := by decide +kernel
theorem dL_law_155 : decode cL_law 155 = .ok (.iload 4, 2) := by decide +kernel
theorem dL_law_157 : decode cL_law 157 = .ok (.iconst 1, 1) := by decide +kernel
theorem dL_law_158 : decode cL_law 158 = .ok (.iadd, 1) := by decide +kernel
theorem dL_law_159 : decode cL_law 159 = .ok (.iaload, 1) := by decide +kernel
theorem dL_law_160 : decode cL_law 160 = .ok (.aload_n 0, 1) := by decide +kernel
theorem dL_law_161 : decode cL_law 161 = .ok (.iload 4, 2) := by decide +kernel
theorem dL_law_163 : decode cL_law 163 = .ok (.iconst 2, 1) := by decide +kernel
theorem dL_law_164 : decode cL_law 164 = .ok (.iadd, 1) := by decide +kernel
theorem dL_law_165 : decode cL_law 165 = .ok (.iaload, 1) := by decide +kernel
theorem dL_law_166 : decode cL_law 166 = .ok (.aload_n 0, 1) := by decide +kernel
theorem dL_law_167 : decode cL_law 167 = .ok (.iload 4, 2) := by decide +kernel
theorem dL_law_169 : decode cL_law 169 = .ok (.iconst 3, 1) := by decide +kernel
theorem dL_law_170 : decode cL_law 170 = .ok (.iadd, 1) := by decide +kernel
theorem dL_law_171 : decode cL_law 171 = .ok (.iaload, 1) := by decide +kernel
theorem dL_law_172 : decode cL_law 172 = .ok (.invokevirtual 72, 3) := by decide +kernel
theorem dL_law_175 : decode cL_law 175 = .ok (.istore 6, 2) := by decide +kernel
theorem dL_law_177 : decode cL_law 177 = .ok (.aload_n 2, 1) := by decide +kernel
theorem dL_law_178 : decode cL_law 178 = .ok (.invokevirtual 73, 3) := by decide +kernel
theorem dL_law_181 : decode cL_law 181 = .ok (.iload 5, 2) := by decide +kernel
theorem dL_law_183 : decode cL_law 183 = .ok (.if_icmp .eq 5, 3) := by decide +kernel
theorem dL_law_186 : decode cL_law 186 = .ok (.iconst 0, 1) := by decide +kernel
theorem dL_law_187 : decode cL_law 187 = .ok (.ireturn, 1) := by decide +kernel
theorem dL_law_188 : decode cL_law 188 = .ok (.iload 5, 2) := by decide +kernel
theorem dL_law_190 : decode cL_law 190 = .ok (.ifCond .ne 15, 3) := by decide +kernel
theorem dL_law_193 : decode cL_law 193 = .ok (.aload_n 3, 1) := by decide +kernel
theorem dL_law_194 : decode cL_law 194 = .ok (.iconst 0, 1) := by decide +kernel
theorem dL_law_195 : decode cL_law 195 = .ok (.laload, 1) := by decide +kernel
theorem dL_law_196 : decode cL_law 196 = .ok (.iload 6, 2) := by decide +kernel
theorem dL_law_198 : decode cL_law 198 = .ok (.i2l, 1) := by decide +kernel
theorem dL_law_199 : decode cL_law 199 = .ok (.lcmp, 1) := by decide +kernel
theorem dL_law_200 : decode cL_law 200 = .ok (.ifCond .eq 5, 3) := by decide +kernel
theorem dL_law_203 : decode cL_law 203 = .ok (.iconst 0, 1) := by decide +kernel
theorem dL_law_204 : decode cL_law 204 = .ok (.ireturn, 1) := by decide +kernel
theorem dL_law_205 : decode cL_law 205 = .ok (.goto 944, 3) := by decide +kernel
theorem dL_law_208 : decode cL_law 208 = .ok (.aload_n 1, 1) := by decide +kernel
theorem dL_law_209 : decode cL_law 209 = .ok (.aload_n 0, 1) := by decide +kernel
theorem dL_law_210 : decode cL_law 210 = .ok (.iload 4, 2) := by decide +kernel
theorem dL_law_212 : decode cL_law 212 = .ok (.iconst 1, 1) := by decide +kernel
theorem dL_law_213 : decode cL_law 213 = .ok (.iadd, 1) := by decide +kernel
theorem dL_law_214 : decode cL_law 214 = .ok (.iaload, 1) := by decide +kernel
theorem dL_law_215 : decode cL_law 215 = .ok (.aload_n 0, 1) := by decide +kernel
theorem dL_law_216 : decode cL_law 216 = .ok (.iload 4, 2) := by decide +kernel
theorem dL_law_218 : decode cL_law 218 = .ok (.iconst 2, 1) := by decide +kernel
theorem dL_law_219 : decode cL_law 219 = .ok (.iadd, 1) := by decide +kernel
theorem dL_law_220 : decode cL_law 220 = .ok (.iaload, 1) := by decide +kernel
theorem dL_law_221 : decode cL_law 221 = .ok (.aload_n 3, 1) := by decide +kernel
theorem dL_law_222 : decode cL_law 222 = .ok (.invokestatic 77, 3) := by decide +kernel
theorem dL_law_225 : decode cL_law 225 = .ok (.istore 5, 2) := by decide +kernel
theorem dL_law_227 : decode cL_law 227 = .ok (.aload_n 2, 1) := by decide +kernel
theorem dL_law_228 : decode cL_law 228 = .ok (.aload_n 0, 1) := by decide +kernel
theorem dL_law_229 : decode cL_law 229 = .ok (.iload 4, 2) := by decide +kernel
theorem dL_law_231 : decode cL_law 231 = .ok (.iconst 1, 1) := by decide +kernel
theorem dL_law_232 : decode cL_law 232 = .ok (.iadd, 1) := by decide +kernel
theorem dL_law_233 : decode cL_law 233 = .ok (.iaload, 1) := by decide +kernel
theorem dL_law_234 : decode cL_law 234 = .ok (.aload_n 0, 1) := by decide +kernel
theorem dL_law_235 : decode cL_law 235 = .ok (.iload 4, 2) := by decide +kernel
theorem dL_law_237 : decode cL_law 237 = .ok (.iconst 2, 1) := by decide +kernel
theorem dL_law_238 : decode cL_law 238 = .ok (.iadd, 1) := by decide +kernel
theorem dL_law_239 : decode cL_law 239 = .ok (.iaload, 1) := by decide +kernel
theorem dL_law_240 : decode cL_law 240 = .ok (.invokevirtual 80, 3) := by decide +kernel
theorem dL_law_243 : decode cL_law 243 = .ok (.istore 6, 2) := by decide +kernel
theorem dL_law_245 : decode cL_law 245 = .ok (.aload_n 2, 1) := by decide +kernel
theorem dL_law_246 : decode cL_law 246 = .ok (.invokevirtual 73, 3) := by decide +kernel
theorem dL_law_249 : decode cL_law 249 = .ok (.iload 5, 2) := by decide +kernel
theorem dL_law_251 : decode cL_law 251 = .ok (.if_icmp .eq 5, 3) := by decide +kernel
theorem dL_law_254 : decode cL_law 254 = .ok (.iconst 0, 1) := by decide +kernel
theorem dL_law_255 : decode cL_law 255 = .ok (.ireturn, 1) := by decide +kernel
theorem dL_law_256 : decode cL_law 256 = .ok (.iload 5, 2) := by decide +kernel
theorem dL_law_258 : decode cL_law 258 = .ok (.ifCond .ne 22, 3) := by decide +kernel
theorem dL_law_261 : decode cL_law 261 = .ok (.aload_n 3, 1) := by decide +kernel
theorem dL_law_262 : decode cL_law 262 = .ok (.iconst 0, 1) := by decide +kernel
theorem dL_law_263 : decode cL_law 263 = .ok (.laload, 1) := by decide +kernel
theorem dL_law_264 : decode cL_law 264 = .ok (.iload 6, 2) := by decide +kernel
theorem dL_law_266 : decode cL_law 266 = .ok (.ifCond .eq 7, 3) := by decide +kernel
theorem dL_law_269 : decode cL_law 269 = .ok (.lconst 1, 1) := by decide +kernel
theorem dL_law_270 : decode cL_law 270 = .ok (.goto 4, 3) := by decide +kernel
theorem dL_law_273 : decode cL_law 273 = .ok (.lconst 0, 1) := by decide +kernel
theorem dL_law_274 : decode cL_law 274 = .ok (.lcmp, 1) := by decide +kernel
theorem dL_law_275 : decode cL_law 275 = .ok (.ifCond .eq 5, 3) := by decide +kernel
theorem dL_law_278 : decode cL_law 278 = .ok (.iconst 0, 1) := by decide +kernel
theorem dL_law_279 : decode cL_law 279 = .ok (.ireturn, 1) := by decide +kernel
theorem dL_law_280 : decode cL_law 280 = .ok (.goto 869, 3) := by decide +kernel
theorem dL_law_283 : decode cL_law 283 = .ok (.aload_n 1, 1) := by decide +kernel
theorem dL_law_284 : decode cL_law 284 = .ok (.aload_n 0, 1) := by decide +kernel
theorem dL_law_285 : decode cL_law 285 = .ok (.iload 4, 2) := by decide +kernel
theorem dL_law_287 : decode cL_law 287 = .ok (.iconst 1, 1) := by decide +kernel
theorem dL_law_288 : decode cL_law 288 = .ok (.iadd, 1) := by decide +kernel
theorem dL_law_289 : decode cL_law 289 = .ok (.iaload, 1) := by decide +kernel
theorem dL_law_290 : decode cL_law 290 = .ok (.aload_n 0, 1) := by decide +kernel
theorem dL_law_291 : decode cL_law 291 = .ok (.iload 4, 2) := by decide +kernel
theorem dL_law_293 : decode cL_law 293 = .ok (.iconst 2, 1) := by decide +kernel
theorem dL_law_294 : decode cL_law 294 = .ok (.iadd, 1) := by decide +kernel
theorem dL_law_295 : decode cL_law 295 = .ok (.iaload, 1) := by decide +kernel
theorem dL_law_296 : decode cL_law 296 = .ok (.aload_n 0, 1) := by decide +kernel
theorem dL_law_297 : decode cL_law 297 = .ok (.iload 4, 2) := by decide +kernel
theorem dL_law_299 : decode cL_law 299 = .ok (.iconst 3, 1) := by decide +kernel
theorem dL_law_300 : decode cL_law 300 = .ok (.iadd, 1) := by decide +kernel
theorem dL_law_301 : decode cL_law 301 = .ok (.iaload, 1) := by decide +kernel
theorem dL_law_302 : decode cL_law 302 = .ok (.aload_n 0, 1) := by decide +kernel
theorem dL_law_303 : decode cL_law 303 = .ok (.iload 4, 2) := by decide +kernel
theorem dL_law_305 : decode cL_law 305 = .ok (.iconst 4, 1) := by decide +kernel
theorem dL_law_306 : decode cL_law 306 = .ok (.iadd, 1) := by decide +kernel
theorem dL_law_307 : decode cL_law 307 = .ok (.iaload, 1) := by decide +kernel
theorem dL_law_308 : decode cL_law 308 = .ok (.aload_n 0, 1) := by decide +kernel
theorem dL_law_309 : decode cL_law 309 = .ok (.iload 4, 2) := by decide +kernel
theorem dL_law_311 : decode cL_law 311 = .ok (.iconst 5, 1) := by decide +kernel
theorem dL_law_312 : decode cL_law 312 = .ok (.iadd, 1) := by decide +kernel
theorem dL_law_313 : decode cL_law 313 = .ok (.iaload, 1) := by decide +kernel
theorem dL_law_314 : decode cL_law 314 = .ok (.aload_n 3, 1) := by decide +kernel
theorem dL_law_315 : decode cL_law 315 = .ok (.invokestatic 81, 3) := by decide +kernel
theorem dL_law_318 : decode cL_law 318 = .ok (.istore 5, 2) := by decide +kernel
theorem dL_law_320 : decode cL_law 320 = .ok (.aload_n 2, 1) := by decide +kernel
theorem dL_law_321 : decode cL_law 321 = .ok (.aload_n 0, 1) := by decide +kernel
theorem dL_law_322 : decode cL_law 322 = .ok (.iload 4, 2) := by decide +kernel
theorem dL_law_324 : decode cL_law 324 = .ok (.iconst 1, 1) := by decide +kernel
theorem dL_law_325 : decode cL_law 325 = .ok (.iadd, 1) := by decide +kernel
theorem dL_law_326 : decode cL_law 326 = .ok (.iaload, 1) := by decide +kernel
theorem dL_law_327 : decode cL_law 327 = .ok (.aload_n 0, 1) := by decide +kernel
theorem dL_law_328 : decode cL_law 328 = .ok (.iload 4, 2) := by decide +kernel
theorem dL_law_330 : decode cL_law 330 = .ok (.iconst 2, 1) := by decide +kernel
theorem dL_law_331 : decode cL_law 331 = .ok (.iadd, 1) := by decide +kernel
theorem dL_law_332 : decode cL_law 332 = .ok (.iaload, 1) := by decide +kernel
theorem dL_law_333 : decode cL_law 333 = .ok (.aload_n 0, 1) := by decide +kernel
theorem dL_law_334 : decode cL_law 334 = .ok (.iload 4, 2) := by decide +kernel
theorem dL_law_336 : decode cL_law 336 = .ok (.iconst 3, 1) := by decide +kernel
theorem dL_law_337 : decode cL_law 337 = .ok (.iadd, 1) := by decide +kernel
theorem dL_law_338 : decode cL_law 338 = .ok (.iaload, 1) := by decide +kernel
theorem dL_law_339 : decode cL_law 339 = .ok (.aload_n 0, 1) := by decide +kernel
theorem dL_law_340 : decode cL_law 340 = .ok (.iload 4, 2) := by decide +kernel
theorem dL_law_342 : decode cL_law 342 = .ok (.iconst 4, 1) := by decide +kernel
theorem dL_law_343 : decode cL_law 343 = .ok (.iadd, 1) := by decide +kernel
theorem dL_law_344 : decode cL_law 344 = .ok (.iaload, 1) := by decide +kernel
theorem dL_law_345 : decode cL_law 345 = .ok (.aload_n 0, 1) := by decide +kernel
theorem dL_law_346 : decode cL_law 346 = .ok (.iload 4, 2) := by decide +kernel
theorem dL_law_348 : decode cL_law 348 = .ok (.iconst 5, 1) := by decide +kernel
theorem dL_law_349 : decode cL_law 349 = .ok (.iadd, 1) := by decide +kernel
theorem dL_law_350 : decode cL_law 350 = .ok (.iaload, 1) := by decide +kernel
theorem dL_law_351 : decode cL_law 351 = .ok (.invokevirtual 84, 3) := by decide +kernel
theorem dL_law_354 : decode cL_law 354 = .ok (.istore 6, 2) := by decide +kernel
theorem dL_law_356 : decode cL_law 356 = .ok (.aload_n 2, 1) := by decide +kernel
theorem dL_law_357 : decode cL_law 357 = .ok (.invokevirtual 73, 3) := by decide +kernel
theorem dL_law_360 : decode cL_law 360 = .ok (.iload 5, 2) := by decide +kernel
theorem dL_law_362 : decode cL_law 362 = .ok (.if_icmp .eq 5, 3) := by decide +kernel
theorem dL_law_365 : decode cL_law 365 = .ok (.iconst 0, 1) := by decide +kernel
