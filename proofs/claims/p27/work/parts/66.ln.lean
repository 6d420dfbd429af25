theorem dL_drawn_0 : decode cL_drawn 0 = .ok (.iload_n 1, 1) := by decide +kernel
theorem dL_drawn_1 : decode cL_drawn 1 = .ok (.aload_n 0, 1) := by decide +kernel
theorem dL_drawn_2 : decode cL_drawn 2 = .ok (.arraylength, 1) := by decide +kernel
theorem dL_drawn_3 : decode cL_drawn 3 = .ok (.if_icmp .ge 9, 3) := by decide +kernel
theorem dL_drawn_6 : decode cL_drawn 6 = .ok (.aload_n 0, 1) := by decide +kernel
theorem dL_drawn_7 : decode cL_drawn 7 = .ok (.iload_n 1, 1) := by decide +kernel
theorem dL_drawn_8 : decode cL_drawn 8 = .ok (.iaload, 1) := by decide +kernel
theorem dL_drawn_9 : decode cL_drawn 9 = .ok (.goto 12, 3) := by decide +kernel
theorem dL_drawn_12 : decode cL_drawn 12 = .ok (.ldc 7, 2) := by decide +kernel
theorem dL_drawn_14 : decode cL_drawn 14 = .ok (.iload_n 1, 1) := by decide +kernel
theorem dL_drawn_15 : decode cL_drawn 15 = .ok (.imul, 1) := by decide +kernel
theorem dL_drawn_16 : decode cL_drawn 16 = .ok (.iload_n 1, 1) := by decide +kernel
theorem dL_drawn_17 : decode cL_drawn 17 = .ok (.imul, 1) := by decide +kernel
theorem dL_drawn_18 : decode cL_drawn 18 = .ok (.ldc 8, 2) := by decide +kernel
theorem dL_drawn_20 : decode cL_drawn 20 = .ok (.iadd, 1) := by decide +kernel
theorem dL_drawn_21 : decode cL_drawn 21 = .ok (.istore_n 2, 1) := by decide +kernel
theorem dL_drawn_22 : decode cL_drawn 22 = .ok (.iload_n 2, 1) := by decide +kernel
theorem dL_drawn_23 : decode cL_drawn 23 = .ok (.ldc 9, 2) := by decide +kernel
theorem dL_drawn_25 : decode cL_drawn 25 = .ok (.iand, 1) := by decide +kernel
theorem dL_drawn_26 : decode cL_drawn 26 = .ok (.ireturn, 1) := by decide +kernel
set_option maxRecDepth 20000 in
theorem ggL_model_X1_define : GoodIn wsL_model wsX1_define := goodIn_ca (goodIn_ca (goodIn_r _ [7, 8, 9, 10, 11, 12, 13, 14, 15, 16, 17, 18, 6, 19, 20, 21, 22, 23, 24, 25, 26, 27, 28, 29, 30, 31, 32, 33, 34, 35, 36, 37, 38, 39, 40, 41, 42, 43, 44, 45] (by decide +kernel) (by decide +kernel)) (goodIn_sub (fun _ h => List.mem_cons_of_mem _ (List.mem_append_left _ (List.mem_append_right _ h))) (by decide +kernel))) (goodIn_sub (fun _ h => List.mem_cons_of_mem _ (List.mem_append_right _ h)) (by decide +kernel))
set_option maxRecDepth 20000 in
theorem gL_model_X1_define : GoodIn wsL_model (wsV RL 10 RX1 yX1_define wsX1_define) := goodIn_app (goodIn_of _ (by decide +kernel)) ggL_model_X1_define
theorem dL_model_0 : decode cL_model 0 = .ok (.aload_n 0, 1) := by decide +kernel
theorem dL_model_1 : decode cL_model 1 = .ok (.iload_n 1, 1) := by decide +kernel
theorem dL_model_2 : decode cL_model 2 = .ok (.iload_n 2, 1) := by decide +kernel
theorem dL_model_3 : decode cL_model 3 = .ok (.iload_n 3, 1) := by decide +kernel
theorem dL_model_4 : decode cL_model 4 = .ok (.iload 4, 2) := by decide +kernel
theorem dL_model_6 : decode cL_model 6 = .ok (.iconst 2, 1) := by decide +kernel
theorem dL_model_7 : decode cL_model 7 = .ok (.irem, 1) := by decide +kernel
theorem dL_model_8 : decode cL_model 8 = .ok (.iconst 1, 1) := by decide +kernel
theorem dL_model_9 : decode cL_model 9 = .ok (.if_icmp .ne 7, 3) := by decide +kernel
theorem dL_model_12 : decode cL_model 12 = .ok (.iconst 1, 1) := by decide +kernel
theorem dL_model_13 : decode cL_model 13 = .ok (.goto 4, 3) := by decide +kernel
theorem dL_model_16 : decode cL_model 16 = .ok (.iconst 0, 1) := by decide +kernel
theorem dL_model_17 : decode cL_model 17 = .ok (.iload 4, 2) := by decide +kernel
theorem dL_model_19 : decode cL_model 19 = .ok (.iconst 1, 1) := by decide +kernel
theorem dL_model_20 : decode cL_model 20 = .ok (.if_icmp .le 7, 3) := by decide +kernel
theorem dL_model_23 : decode cL_model 23 = .ok (.iconst 1, 1) := by decide +kernel
theorem dL_model_24 : decode cL_model 24 = .ok (.goto 4, 3) := by decide +kernel
theorem dL_model_27 : decode cL_model 27 = .ok (.iconst 0, 1) := by decide +kernel
theorem dL_model_28 : decode cL_model 28 = .ok (.iload 5, 2) := by decide +kernel
theorem dL_model_30 : decode cL_model 30 = .ok (.invokevirtual 10, 3) := by decide +kernel
theorem dL_model_33 : decode cL_model 33 = .ok (.ireturn, 1) := by decide +kernel
theorem dL_model_34 : decode cL_model 34 = .ok (.astore 6, 2) := by decide +kernel
theorem dL_model_36 : decode cL_model 36 = .ok (.iconst (-1), 1) := by decide +kernel
theorem dL_model_37 : decode cL_model 37 = .ok (.ireturn, 1) := by decide +kernel
theorem dL_model_38 : decode cL_model 38 = .ok (.astore 6, 2) := by decide +kernel
theorem dL_model_40 : decode cL_model 40 = .ok (.iconst (-1), 1) := by decide +kernel
theorem dL_model_41 : decode cL_model 41 = .ok (.ireturn, 1) := by decide +kernel
set_option maxRecDepth 20000 in
theorem ggL_added_X1_append : GoodIn wsL_added wsX1_append := goodIn_ca (goodIn_ca (goodIn_ca (goodIn_r _ [8, 9, 10, 11, 12, 7, 13, 14, 15, 16, 17, 18, 19, 20, 21, 22, 23, 24, 25, 26, 27, 28, 29, 30] (by decide +kernel) (by decide +kernel)) (goodIn_sub (fun _ h => List.mem_cons_of_mem _ (List.mem_append_left _ (List.mem_append_left _ (List.mem_append_right _ h)))) (by decide +kernel))) (goodIn_sub (fun _ h => List.mem_cons_of_mem _ (List.mem_append_left _ (List.mem_append_right _ h))) (by decide +kernel))) (goodIn_sub (fun _ h => List.mem_cons_of_mem _ (List.mem_append_right _ h)) (by decide +kernel))
set_option maxRecDepth 20000 in
theorem gL_added_X1_append : GoodIn wsL_added (wsV RL 20 RX1 yX1_append wsX1_append) := goodIn_app (goodIn_of _ (by decide +kernel)) ggL_added_X1_append
theorem dL_added_0 : decode cL_added 0 = .ok (.aload_n 0, 1) := by decide +kernel
theorem dL_added_1 : decode cL_added 1 = .ok (.iload_n 1, 1) := by decide +kernel
theorem dL_added_2 : decode cL_added 2 = .ok (.iload_n 2, 1) := by decide +kernel
theorem dL_added_3 : decode cL_added 3 = .ok (.invokevirtual 20, 3) := by decide +kernel
theorem dL_added_6 : decode cL_added 6 = .ok (.ireturn, 1) := by decide +kernel
theorem dL_added_7 : decode cL_added 7 = .ok (.astore_n 3, 1) := by decide +kernel
theorem dL_added_8 : decode cL_added 8 = .ok (.iconst (-1), 1) := by decide +kernel
theorem dL_added_9 : decode cL_added 9 = .ok (.ireturn, 1) := by decide +kernel
theorem dL_added_10 : decode cL_added 10 = .ok (.astore_n 3, 1) := by decide +kernel
theorem dL_added_11 : decode cL_added 11 = .ok (.iconst (-1), 1) := by decide +kernel
theorem dL_added_12 : decode cL_added 12 = .ok (.ireturn, 1) := by decide +kernel
theorem dL_added_13 : decode cL_added 13 = .ok (.astore_n 3, 1) := by decide +kernel
theorem dL_added_14 : decode cL_added 14 = .ok (.iconst (-1), 1) := by decide +kernel
theorem dL_added_15 : decode cL_added 15 = .ok (.ireturn, 1) := by decide +kernel
set_option maxRecDepth 20000 in
theorem ggL_changed_X1_setByte : GoodIn wsL_changed wsX1_setByte := goodIn_ca (goodIn_ca (goodIn_r _ [7, 8, 9, 10, 6, 11, 12, 13, 14, 15, 16, 17, 18, 19, 20, 21, 22, 23, 24, 25, 26, 27] (by decide +kernel) (by decide +kernel)) (goodIn_sub (fun _ h => List.mem_cons_of_mem _ (List.mem_append_left _ (List.mem_append_right _ h))) (by decide +kernel))) (goodIn_sub (fun _ h => List.mem_cons_of_mem _ (List.mem_append_right _ h)) (by decide +kernel))
set_option maxRecDepth 20000 in
theorem gL_changed_X1_setByte : GoodIn wsL_changed (wsV RL 26 RX1 yX1_setByte wsX1_setByte) := goodIn_app (goodIn_of _ (by decide +kernel)) ggL_changed_X1_setByte
theorem dL_changed_0 : decode cL_changed 0 = .ok (.aload_n 0, 1) := by decide +kernel
theorem dL_changed_1 : decode cL_changed 1 = .ok (.iload_n 1, 1) := by decide +kernel
theorem dL_changed_2 : decode cL_changed 2 = .ok (.iload_n 2, 1) := by decide +kernel
theorem dL_changed_3 : decode cL_changed 3 = .ok (.iload_n 3, 1) := by decide +kernel
theorem dL_changed_4 : decode cL_changed 4 = .ok (.invokevirtual 26, 3) := by decide +kernel
theorem dL_changed_7 : decode cL_changed 7 = .ok (.ireturn, 1) := by decide +kernel
theorem dL_changed_8 : decode cL_changed 8 = .ok (.astore 4, 2) := by decide +kernel
theorem dL_changed_10 : decode cL_changed 10 = .ok (.iconst (-1), 1) := by decide +kernel
theorem dL_changed_11 : decode cL_changed 11 = .ok (.ireturn, 1) := by decide +kernel
theorem dL_changed_12 : decode cL_changed 12 = .ok (.astore 4, 2) := by decide +kernel
theorem dL_changed_14 : decode cL_changed 14 = .ok (.iconst (-1), 1) := by decide +kernel
theorem dL_changed_15 : decode cL_changed 15 = .ok (.ireturn, 1) := by decide +kernel
set_option maxRecDepth 20000 in
theorem ggL_at_X1_byteAt : GoodIn wsL_at wsX1_byteAt := goodIn_ca (goodIn_r _ [6, 7, 8, 9, 5, 10, 11, 12, 13, 14, 15, 16, 17, 18, 19, 20, 21] (by decide +kernel) (by decide +kernel)) (goodIn_sub (fun _ h => List.mem_cons_of_mem _ (List.mem_append_right _ h)) (by decide +kernel))
set_option maxRecDepth 20000 in
theorem gL_at_X1_byteAt : GoodIn wsL_at (wsV RL 30 RX1 yX1_byteAt wsX1_byteAt) := goodIn_app (goodIn_of _ (by decide +kernel)) ggL_at_X1_byteAt
theorem dL_at_0 : decode cL_at 0 = .ok (.aload_n 0, 1) := by decide +kernel
theorem dL_at_1 : decode cL_at 1 = .ok (.iload_n 1, 1) := by decide +kernel
theorem dL_at_2 : decode cL_at 2 = .ok (.iload_n 2, 1) := by decide +kernel
theorem dL_at_3 : decode cL_at 3 = .ok (.invokevirtual 30, 3) := by decide +kernel
theorem dL_at_6 : decode cL_at 6 = .ok (.ireturn, 1) := by decide +kernel
theorem dL_at_7 : decode cL_at 7 = .ok (.astore_n 3, 1) := by decide +kernel
theorem dL_at_8 : decode cL_at 8 = .ok (.iconst (-1), 1) := by decide +kernel
theorem dL_at_9 : decode cL_at 9 = .ok (.ireturn, 1) := by decide +kernel
set_option maxRecDepth 20000 in
theorem ggL_sum_X1_sumOfPart : GoodIn wsL_sum wsX1_sumOfPart := goodIn_ca (goodIn_r _ [6, 7, 8, 9, 10, 11, 12, 5, 13, 14, 15, 16, 17, 18, 19, 20, 21, 22, 23, 24, 25, 26, 27, 28, 29, 30, 31, 32, 33, 34, 35, 36, 37, 38, 39, 40, 41, 42, 43, 44, 45, 46, 47, 48, 49, 50, 51, 52, 53, 54, 55, 56, 57, 70, 71, 72, 73, 74, 75, 76, 77, 78, 79, 80, 81] (by decide +kernel) (by decide +kernel)) (goodIn_sub (fun _ h => List.mem_cons_of_mem _ (List.mem_append_right _ h)) (by decide +kernel))
set_option maxRecDepth 20000 in
theorem gL_sum_X1_sumOfPart : GoodIn wsL_sum (wsV RL 33 RX1 yX1_sumOfPart wsX1_sumOfPart) := goodIn_app (goodIn_of _ (by decide +kernel)) ggL_sum_X1_sumOfPart
set_option maxRecDepth 20000 in
theorem ggL_sum_X1_sum : GoodIn wsL_sum wsX1_sum := goodIn_ca (goodIn_r _ [61, 9, 10, 11, 12, 5, 13, 7, 8, 14, 15, 16, 17, 18, 19, 20, 21, 22, 23, 24, 25, 26, 27, 28, 29, 30, 31, 32, 33, 34, 35, 36, 37, 38, 39, 40, 41, 42, 43, 44, 45, 46, 47, 48, 49, 50, 51, 52, 53, 54, 55, 56, 57, 70, 71, 72, 73, 74, 75, 76, 77, 78, 79, 80, 81] (by decide +kernel) (by decide +kernel)) (goodIn_sub (fun _ h => List.mem_cons_of_mem _ (List.mem_append_right _ h)) (by decide +kernel))
set_option maxRecDepth 20000 in
theorem gL_sum_X1_sum : GoodIn wsL_sum (wsV RL 37 RX1 yX1_sum wsX1_sum) := goodIn_app (goodIn_of _ (by decide +kernel)) ggL_sum_X1_sum
set_option maxRecDepth 20000 in
theorem ggL_sum_X1_remainder : GoodIn wsL_sum wsX1_remainder := goodIn_ca (goodIn_r _ [65, 9, 23, 10, 11, 12, 5, 13, 7, 8, 14, 15, 16, 17, 66, 67, 68, 27, 69, 41, 42, 43, 44, 45, 46, 47, 70, 71, 72, 73, 74, 75, 76, 77, 78, 79, 80, 81] (by decide +kernel) (by decide +kernel)) (goodIn_sub (fun _ h => List.mem_cons_of_mem _ (List.mem_append_right _ h)) (by decide +kernel))
set_option maxRecDepth 20000 in
theorem gL_sum_X1_remainder : GoodIn wsL_sum (wsV RL 40 RX1 yX1_remainder wsX1_remainder) := goodIn_app (goodIn_of _ (by decide +kernel)) ggL_sum_X1_remainder
theorem dL_sum_0 : decode cL_sum 0 = .ok (.iload_n 1, 1) := by decide +kernel
theorem dL_sum_1 : decode cL_sum 1 = .ok (.ifCond .ne 16, 3) := by decide +kernel
theorem dL_sum_4 : decode cL_sum 4 = .ok (.aload_n 0, 1) := by decide +kernel
theorem dL_sum_5 : decode cL_sum 5 = .ok (.iload_n 2, 1) := by decide +kernel
theorem dL_sum_6 : decode cL_sum 6 = .ok (.iload_n 3, 1) := by decide +kernel
theorem dL_sum_7 : decode cL_sum 7 = .ok (.iload 4, 2) := by decide +kernel
theorem dL_sum_9 : decode cL_sum 9 = .ok (.iload 5, 2) := by decide +kernel
theorem dL_sum_11 : decode cL_sum 11 = .ok (.invokevirtual 33, 3) := by decide +kernel
theorem dL_sum_14 : decode cL_sum 14 = .ok (.goto 23, 3) := by decide +kernel
theorem dL_sum_17 : decode cL_sum 17 = .ok (.iload_n 1, 1) := by decide +kernel
theorem dL_sum_18 : decode cL_sum 18 = .ok (.iconst 1, 1) := by decide +kernel
theorem dL_sum_19 : decode cL_sum 19 = .ok (.if_icmp .ne 12, 3) := by decide +kernel
theorem dL_sum_22 : decode cL_sum 22 = .ok (.aload_n 0, 1) := by decide +kernel
theorem dL_sum_23 : decode cL_sum 23 = .ok (.iload_n 2, 1) := by decide +kernel
theorem dL_sum_24 : decode cL_sum 24 = .ok (.iload_n 3, 1) := by decide +kernel
theorem dL_sum_25 : decode cL_sum 25 = .ok (.invokevirtual 37, 3) := by decide +kernel
theorem dL_sum_28 : decode cL_sum 28 = .ok (.goto 9, 3) := by decide +kernel
theorem dL_sum_31 : decode cL_sum 31 = .ok (.aload_n 0, 1) := by decide +kernel
theorem dL_sum_32 : decode cL_sum 32 = .ok (.iload_n 2, 1) := by decide +kernel
theorem dL_sum_33 : decode cL_sum 33 = .ok (.iload_n 3, 1) := by decide +kernel
theorem dL_sum_34 : decode cL_sum 34 = .ok (.invokevirtual 40, 3) := by decide +kernel
theorem dL_sum_37 : decode cL_sum 37 = .ok (.ireturn, 1) := by decide +kernel
theorem dL_sum_38 : decode cL_sum 38 = .ok (.astore 6, 2) := by decide +kernel
theorem dL_sum_40 : decode cL_sum 40 = .ok (.iconst (-1), 1) := by decide +kernel
theorem dL_sum_41 : decode cL_sum 41 = .ok (.ireturn, 1) := by decide +kernel
set_option maxRecDepth 20000 in
theorem ggL_isAffine_L_sum : GoodIn wsL_isAffine wsL_sum := goodIn_ca (goodIn_r _ [4, 5, 6, 7, 8, 9, 10, 11, 12, 13, 14, 15, 16, 17, 18, 19, 20, 21, 22, 23, 24, 25, 26, 27, 28, 29, 30, 31, 32, 33, 34, 35, 36, 37, 38, 39, 40, 41, 42, 43, 44, 45, 46, 47, 48, 49, 50, 51, 52, 53, 54, 55, 56, 57, 58, 59, 60, 61, 62, 63, 64, 65, 66, 67, 68, 69, 70, 71, 72, 73, 74, 75, 76, 77, 78, 79, 80, 81, 82, 83, 84, 85] (by decide +kernel) (by decide +kernel)) (goodIn_sub (fun _ h => List.mem_cons_of_mem _ (List.mem_append_right _ h)) (by decide +kernel))
set_option maxRecDepth 20000 in
theorem gL_isAffine_L_sum : GoodIn wsL_isAffine (va_wsS RL 43 yL_sum wsL_sum) := goodIn_app (goodIn_of _ (by decide +kernel)) ggL_isAffine_L_sum
theorem dL_isAffine_0 : decode cL_isAffine 0 = .ok (.aload_n 0, 1) := by decide +kernel
theorem dL_isAffine_1 : decode cL_isAffine 1 = .ok (.iload_n 1, 1) := by decide +kernel
theorem dL_isAffine_2 : decode cL_isAffine 2 = .ok (.iload_n 2, 1) := by decide +kernel
theorem dL_isAffine_3 : decode cL_isAffine 3 = .ok (.iconst 3, 1) := by decide +kernel
theorem dL_isAffine_4 : decode cL_isAffine 4 = .ok (.iload_n 3, 1) := by decide +kernel
theorem dL_isAffine_5 : decode cL_isAffine 5 = .ok (.iload 4, 2) := by decide +kernel
theorem dL_isAffine_7 : decode cL_isAffine 7 = .ok (.invokestatic 43, 3) := by decide +kernel
theorem dL_isAffine_10 : decode cL_isAffine 10 = .ok (.aload_n 0, 1) := by decide +kernel
theorem dL_isAffine_11 : decode cL_isAffine 11 = .ok (.iload_n 1, 1) := by decide +kernel
theorem dL_isAffine_12 : decode cL_isAffine 12 = .ok (.iload_n 2, 1) := by decide +kernel
theorem dL_isAffine_13 : decode cL_isAffine 13 = .ok (.iconst 0, 1) := by decide +kernel
theorem dL_isAffine_14 : decode cL_isAffine 14 = .ok (.iload_n 3, 1) := by decide +kernel
theorem dL_isAffine_15 : decode cL_isAffine 15 = .ok (.iload 4, 2) := by decide +kernel
theorem dL_isAffine_17 : decode cL_isAffine 17 = .ok (.invokestatic 43, 3) := by decide +kernel
theorem dL_isAffine_20 : decode cL_isAffine 20 = .ok (.aload_n 0, 1) := by decide +kernel
theorem dL_isAffine_21 : decode cL_isAffine 21 = .ok (.iload_n 1, 1) := by decide +kernel
theorem dL_isAffine_22 : decode cL_isAffine 22 = .ok (.iload_n 2, 1) := by decide +kernel
theorem dL_isAffine_23 : decode cL_isAffine 23 = .ok (.iconst 1, 1) := by decide +kernel
theorem dL_isAffine_24 : decode cL_isAffine 24 = .ok (.iload_n 3, 1) := by decide +kernel
theorem dL_isAffine_25 : decode cL_isAffine 25 = .ok (.iload 4, 2) := by decide +kernel
theorem dL_isAffine_27 : decode cL_isAffine 27 = .ok (.invokestatic 43, 3) := by decide +kernel
theorem dL_isAffine_30 : decode cL_isAffine 30 = .ok (.ixor, 1) := by decide +kernel
theorem dL_isAffine_31 : decode cL_isAffine 31 = .ok (.aload_n 0, 1) := by decide +kernel
theorem dL_isAffine_32 : decode cL_isAffine 32 = .ok (.iload_n 1, 1) := by decide +kernel
theorem dL_isAffine_33 : decode cL_isAffine 33 = .ok (.iload_n 2, 1) := by decide +kernel
theorem dL_isAffine_34 : decode cL_isAffine 34 = .ok (.iconst 2, 1) := by decide +kernel
theorem dL_isAffine_35 : decode cL_isAffine 35 = .ok (.iload_n 3, 1) := by decide +kernel
theorem dL_isAffine_36 : decode cL_isAffine 36 = .ok (.iload 4, 2) := by decide +kernel
theorem dL_isAffine_38 : decode cL_isAffine 38 = .ok (.invokestatic 43, 3) := by decide +kernel
theorem dL_isAffine_41 : decode cL_isAffine 41 = .ok (.ixor, 1) := by decide +kernel
theorem dL_isAffine_42 : decode cL_isAffine 42 = .ok (.if_icmp .ne 7, 3) := by decide +kernel
theorem dL_isAffine_45 : decode cL_isAffine 45 = .ok (.iconst 1, 1) := by decide +kernel
theorem dL_isAffine_46 : decode cL_isAffine 46 = .ok (.goto 4, 3) := by decide +kernel
theorem dL_isAffine_49 : decode cL_isAffine 49 = .ok (.iconst 0, 1) := by decide +kernel
theorem dL_isAffine_50 : decode cL_isAffine 50 = .ok (.ireturn, 1) := by decide +kernel
set_option maxRecDepth 20000 in
theorem ggL_law_X1_init : GoodIn wsL_law wsX1_init := goodIn_r _ [6, 7, 8, 9, 10, 11, 12, 13, 14, 15, 16, 149, 150, 151, 152] (by decide +kernel) (by decide +kernel)
set_option maxRecDepth 20000 in
theorem gL_law_X1_init : GoodIn wsL_law (wsX1_init) := ggL_law_X1_init
set_option maxRecDepth 20000 in
theorem ggL_law_L_drawn : GoodIn wsL_law wsL_drawn := goodIn_r _ [20, 21, 22, 23] (by decide +kernel) (by decide +kernel)
set_option maxRecDepth 20000 in
theorem gL_law_L_drawn : GoodIn wsL_law (va_wsS RL 49 yL_drawn wsL_drawn) := goodIn_app (goodIn_of _ (by decide +kernel)) ggL_law_L_drawn
set_option maxRecDepth 20000 in
theorem ggL_law_L_model : GoodIn wsL_law wsL_model := goodIn_ca (goodIn_ca (goodIn_r _ [26, 27, 28, 29, 30, 31, 2, 32, 33, 34, 35, 36, 12, 11, 10, 37, 38, 39, 40, 41, 42, 43, 44, 45, 8, 9, 46, 47, 48, 49, 50, 51, 52, 53, 149, 150, 151, 152, 153, 154, 155, 156, 157, 158, 159, 160] (by decide +kernel) (by decide +kernel)) (goodIn_sub (fun _ h => List.mem_append_left _ (List.mem_append_left _ (List.mem_append_right _ h))) (by decide +kernel))) (goodIn_sub (fun _ h => List.mem_append_left _ (List.mem_append_right _ h)) (by decide +kernel))
set_option maxRecDepth 20000 in
theorem gL_law_L_model : GoodIn wsL_law (va_wsS RL 53 yL_model wsL_model) := goodIn_app (goodIn_of _ (by decide +kernel)) ggL_law_L_model
set_option maxRecDepth 20000 in
theorem ggL_law_L_added : GoodIn wsL_law wsL_added := goodIn_ca (goodIn_ca (goodIn_ca (goodIn_r _ [56, 57, 27, 28, 58, 59, 60, 2, 61, 15, 16, 62, 63, 64, 65, 66, 67, 68, 69, 33, 34, 70, 71, 72, 73, 35, 36, 149, 150, 151, 152] (by decide +kernel) (by decide +kernel)) (goodIn_sub (fun _ h => List.mem_append_right _ h) (by decide +kernel))) (goodIn_sub (fun _ h => List.mem_append_left _ (List.mem_append_left _ (List.mem_append_right _ h))) (by decide +kernel))) (goodIn_sub (fun _ h => List.mem_append_left _ (List.mem_append_right _ h)) (by decide +kernel))
set_option maxRecDepth 20000 in
theorem gL_law_L_added : GoodIn wsL_law (va_wsS RL 57 yL_added wsL_added) := goodIn_app (goodIn_of _ (by decide +kernel)) ggL_law_L_added
set_option maxRecDepth 20000 in
theorem ggL_law_L_at : GoodIn wsL_law wsL_at := goodIn_ca (goodIn_r _ [76, 57, 77, 78, 79, 2, 80, 15, 62, 63, 64, 65, 66, 81, 82, 83, 84, 16, 149, 150, 151, 152] (by decide +kernel) (by decide +kernel)) (goodIn_sub (fun _ h => List.mem_append_right _ h) (by decide +kernel))
set_option maxRecDepth 20000 in
theorem gL_law_L_at : GoodIn wsL_law (va_wsS RL 61 yL_at wsL_at) := goodIn_app (goodIn_of _ (by decide +kernel)) ggL_law_L_at
set_option maxRecDepth 20000 in
theorem ggL_law_L_changed : GoodIn wsL_law wsL_changed := goodIn_ca (goodIn_ca (goodIn_r _ [87, 57, 27, 88, 89, 90, 2, 91, 15, 62, 63, 64, 65, 66, 81, 82, 83, 84, 16, 67, 68, 69, 33, 34, 149, 150, 151, 152] (by decide +kernel) (by decide +kernel)) (goodIn_sub (fun _ h => List.mem_append_right _ h) (by decide +kernel))) (goodIn_sub (fun _ h => List.mem_append_left _ (List.mem_append_left _ (List.mem_append_right _ h))) (by decide +kernel))
set_option maxRecDepth 20000 in
theorem gL_law_L_changed : GoodIn wsL_law (va_wsS RL 64 yL_changed wsL_changed) := goodIn_app (goodIn_of _ (by decide +kernel)) ggL_law_L_changed
set_option maxRecDepth 20000 in
theorem ggL_law_L_isAffine : GoodIn wsL_law wsL_isAffine := goodIn_ca (goodIn_r _ [94, 95, 96, 19, 97, 57, 98, 99, 100, 2, 101, 65, 66, 16, 102, 103, 104, 105, 11, 62, 63, 64, 106, 107, 108, 109, 110, 15, 111, 112, 113, 38, 114, 115, 116, 117, 118, 49, 119, 120, 121, 122, 123, 124, 46, 125, 126, 127, 128, 52, 53, 47, 129, 130, 131, 132, 51, 133, 134, 135, 136, 50, 137, 138, 139, 140, 141, 142, 143, 144, 145, 146, 147, 148, 149, 150, 151, 152, 153, 154, 155, 156, 157, 158, 159, 160] (by decide +kernel) (by decide +kernel)) (goodIn_sub (fun _ h => List.mem_append_right _ h) (by decide +kernel))
set_option maxRecDepth 20000 in
theorem gL_law_L_isAffine : GoodIn wsL_law (va_wsS RL 68 yL_isAffine wsL_isAffine) := goodIn_app (goodIn_of _ (by decide +kernel)) ggL_law_L_isAffine
