set_option maxRecDepth 20000 in
theorem ggL_define_X1_define : GoodIn wsL_define wsX1_define := goodIn_ca (goodIn_ca (goodIn_r _ [7, 8, 9, 10, 11, 12, 13, 14, 15, 16, 17, 18, 6, 19, 20, 21, 22, 23, 24, 25, 26, 27, 28, 29, 30, 31, 32, 33, 34, 35, 36, 37, 38, 39, 40, 41, 42, 43, 44, 45] (by decide +kernel) (by decide +kernel)) (goodIn_sub (fun _ h => List.mem_cons_of_mem _ (List.mem_append_left _ (List.mem_append_right _ h))) (by decide +kernel))) (goodIn_sub (fun _ h => List.mem_cons_of_mem _ (List.mem_append_right _ h)) (by decide +kernel))
set_option maxRecDepth 20000 in
theorem gL_define_X1_define : GoodIn wsL_define (wsV RL 7 RX1 yX1_define wsX1_define) := goodIn_app (goodIn_of _ (by decide +kernel)) ggL_define_X1_define
theorem dL_define_0 : decode cL_define 0 = .ok (.aload 7, 2) := by decide +kernel
theorem dL_define_2 : decode cL_define 2 = .ok (.iconst 0, 1) := by decide +kernel
theorem dL_define_3 : decode cL_define 3 = .ok (.aload_n 0, 1) := by decide +kernel
theorem dL_define_4 : decode cL_define 4 = .ok (.iload_n 1, 1) := by decide +kernel
theorem dL_define_5 : decode cL_define 5 = .ok (.iload_n 2, 1) := by decide +kernel
theorem dL_define_6 : decode cL_define 6 = .ok (.iload_n 3, 1) := by decide +kernel
theorem dL_define_7 : decode cL_define 7 = .ok (.iload 4, 2) := by decide +kernel
theorem dL_define_9 : decode cL_define 9 = .ok (.iload 5, 2) := by decide +kernel
theorem dL_define_11 : decode cL_define 11 = .ok (.iload 6, 2) := by decide +kernel
theorem dL_define_13 : decode cL_define 13 = .ok (.invokevirtual 7, 3) := by decide +kernel
theorem dL_define_16 : decode cL_define 16 = .ok (.i2l, 1) := by decide +kernel
theorem dL_define_17 : decode cL_define 17 = .ok (.lastore, 1) := by decide +kernel
theorem dL_define_18 : decode cL_define 18 = .ok (.goto 11, 3) := by decide +kernel
theorem dL_define_21 : decode cL_define 21 = .ok (.astore 8, 2) := by decide +kernel
theorem dL_define_23 : decode cL_define 23 = .ok (.iconst 1, 1) := by decide +kernel
theorem dL_define_24 : decode cL_define 24 = .ok (.ireturn, 1) := by decide +kernel
theorem dL_define_25 : decode cL_define 25 = .ok (.astore 8, 2) := by decide +kernel
theorem dL_define_27 : decode cL_define 27 = .ok (.iconst 2, 1) := by decide +kernel
theorem dL_define_28 : decode cL_define 28 = .ok (.ireturn, 1) := by decide +kernel
theorem dL_define_29 : decode cL_define 29 = .ok (.iconst 0, 1) := by decide +kernel
theorem dL_define_30 : decode cL_define 30 = .ok (.ireturn, 1) := by decide +kernel
set_option maxRecDepth 20000 in
theorem ggL_check_X1_check : GoodIn wsL_check wsX1_check := goodIn_ca (goodIn_r _ [6, 7, 8, 9, 10, 5, 11, 12, 13, 14, 15, 16, 17, 18, 19, 20, 21, 22, 23, 24, 25, 26, 27, 28, 29, 30, 31, 32, 33, 34, 35, 36, 37, 38, 39, 40, 41, 42, 43, 44, 45, 46, 47, 48, 49, 50, 51, 52, 53, 54, 55, 56, 57, 58, 59, 60] (by decide +kernel) (by decide +kernel)) (goodIn_sub (fun _ h => List.mem_cons_of_mem _ (List.mem_append_right _ h)) (by decide +kernel))
set_option maxRecDepth 20000 in
theorem gL_check_X1_check : GoodIn wsL_check (wsV RL 17 RX1 yX1_check wsX1_check) := goodIn_app (goodIn_of _ (by decide +kernel)) ggL_check_X1_check
theorem dL_check_0 : decode cL_check 0 = .ok (.aload_n 2, 1) := by decide +kernel
theorem dL_check_1 : decode cL_check 1 = .ok (.iconst 0, 1) := by decide +kernel
theorem dL_check_2 : decode cL_check 2 = .ok (.aload_n 0, 1) := by decide +kernel
theorem dL_check_3 : decode cL_check 3 = .ok (.iload_n 1, 1) := by decide +kernel
theorem dL_check_4 : decode cL_check 4 = .ok (.invokevirtual 17, 3) := by decide +kernel
theorem dL_check_7 : decode cL_check 7 = .ok (.i2l, 1) := by decide +kernel
theorem dL_check_8 : decode cL_check 8 = .ok (.lastore, 1) := by decide +kernel
theorem dL_check_9 : decode cL_check 9 = .ok (.goto 6, 3) := by decide +kernel
theorem dL_check_12 : decode cL_check 12 = .ok (.astore_n 3, 1) := by decide +kernel
theorem dL_check_13 : decode cL_check 13 = .ok (.iconst 1, 1) := by decide +kernel
theorem dL_check_14 : decode cL_check 14 = .ok (.ireturn, 1) := by decide +kernel
theorem dL_check_15 : decode cL_check 15 = .ok (.iconst 0, 1) := by decide +kernel
theorem dL_check_16 : decode cL_check 16 = .ok (.ireturn, 1) := by decide +kernel
set_option maxRecDepth 20000 in
theorem ggL_multiply_X1_multiply : GoodIn wsL_multiply wsX1_multiply := goodIn_ca (goodIn_ca (goodIn_r _ [7, 8, 9, 10, 11, 6, 12, 13, 14, 15, 16, 17, 18, 19, 20, 21, 22, 23, 24, 25, 26, 27, 28, 29, 30, 31, 32, 33, 34, 35, 36, 37, 38, 39, 40, 41, 42, 43, 44, 45] (by decide +kernel) (by decide +kernel)) (goodIn_sub (fun _ h => List.mem_cons_of_mem _ (List.mem_append_left _ (List.mem_append_right _ h))) (by decide +kernel))) (goodIn_sub (fun _ h => List.mem_cons_of_mem _ (List.mem_append_right _ h)) (by decide +kernel))
set_option maxRecDepth 20000 in
theorem gL_multiply_X1_multiply : GoodIn wsL_multiply (wsV RL 23 RX1 yX1_multiply wsX1_multiply) := goodIn_app (goodIn_of _ (by decide +kernel)) ggL_multiply_X1_multiply
theorem dL_multiply_0 : decode cL_multiply 0 = .ok (.aload 4, 2) := by decide +kernel
theorem dL_multiply_2 : decode cL_multiply 2 = .ok (.iconst 0, 1) := by decide +kernel
theorem dL_multiply_3 : decode cL_multiply 3 = .ok (.aload_n 0, 1) := by decide +kernel
theorem dL_multiply_4 : decode cL_multiply 4 = .ok (.iload_n 1, 1) := by decide +kernel
theorem dL_multiply_5 : decode cL_multiply 5 = .ok (.iload_n 2, 1) := by decide +kernel
theorem dL_multiply_6 : decode cL_multiply 6 = .ok (.iload_n 3, 1) := by decide +kernel
theorem dL_multiply_7 : decode cL_multiply 7 = .ok (.invokevirtual 23, 3) := by decide +kernel
theorem dL_multiply_10 : decode cL_multiply 10 = .ok (.i2l, 1) := by decide +kernel
theorem dL_multiply_11 : decode cL_multiply 11 = .ok (.lastore, 1) := by decide +kernel
theorem dL_multiply_12 : decode cL_multiply 12 = .ok (.goto 11, 3) := by decide +kernel
theorem dL_multiply_15 : decode cL_multiply 15 = .ok (.astore 5, 2) := by decide +kernel
theorem dL_multiply_17 : decode cL_multiply 17 = .ok (.iconst 1, 1) := by decide +kernel
theorem dL_multiply_18 : decode cL_multiply 18 = .ok (.ireturn, 1) := by decide +kernel
theorem dL_multiply_19 : decode cL_multiply 19 = .ok (.astore 5, 2) := by decide +kernel
theorem dL_multiply_21 : decode cL_multiply 21 = .ok (.iconst 2, 1) := by decide +kernel
theorem dL_multiply_22 : decode cL_multiply 22 = .ok (.ireturn, 1) := by decide +kernel
theorem dL_multiply_23 : decode cL_multiply 23 = .ok (.iconst 0, 1) := by decide +kernel
theorem dL_multiply_24 : decode cL_multiply 24 = .ok (.ireturn, 1) := by decide +kernel
set_option maxRecDepth 20000 in
theorem ggL_power_X1_power : GoodIn wsL_power wsX1_power := goodIn_ca (goodIn_ca (goodIn_r _ [7, 8, 9, 10, 11, 12, 6, 13, 14, 15, 16, 17, 18, 19, 20, 21, 22, 23, 24, 25, 26, 27, 28, 29, 30, 31, 32, 33, 34, 35, 36, 37, 38, 39, 40, 41, 42, 43, 44, 45] (by decide +kernel) (by decide +kernel)) (goodIn_sub (fun _ h => List.mem_cons_of_mem _ (List.mem_append_left _ (List.mem_append_right _ h))) (by decide +kernel))) (goodIn_sub (fun _ h => List.mem_cons_of_mem _ (List.mem_append_right _ h)) (by decide +kernel))
set_option maxRecDepth 20000 in
theorem gL_power_X1_power : GoodIn wsL_power (wsV RL 27 RX1 yX1_power wsX1_power) := goodIn_app (goodIn_of _ (by decide +kernel)) ggL_power_X1_power
theorem dL_power_0 : decode cL_power 0 = .ok (.aload 4, 2) := by decide +kernel
theorem dL_power_2 : decode cL_power 2 = .ok (.iconst 0, 1) := by decide +kernel
theorem dL_power_3 : decode cL_power 3 = .ok (.aload_n 0, 1) := by decide +kernel
theorem dL_power_4 : decode cL_power 4 = .ok (.iload_n 1, 1) := by decide +kernel
theorem dL_power_5 : decode cL_power 5 = .ok (.lload_n 2, 1) := by decide +kernel
theorem dL_power_6 : decode cL_power 6 = .ok (.invokevirtual 27, 3) := by decide +kernel
theorem dL_power_9 : decode cL_power 9 = .ok (.i2l, 1) := by decide +kernel
theorem dL_power_10 : decode cL_power 10 = .ok (.lastore, 1) := by decide +kernel
theorem dL_power_11 : decode cL_power 11 = .ok (.goto 11, 3) := by decide +kernel
theorem dL_power_14 : decode cL_power 14 = .ok (.astore 5, 2) := by decide +kernel
theorem dL_power_16 : decode cL_power 16 = .ok (.iconst 1, 1) := by decide +kernel
theorem dL_power_17 : decode cL_power 17 = .ok (.ireturn, 1) := by decide +kernel
theorem dL_power_18 : decode cL_power 18 = .ok (.astore 5, 2) := by decide +kernel
theorem dL_power_20 : decode cL_power 20 = .ok (.iconst 2, 1) := by decide +kernel
theorem dL_power_21 : decode cL_power 21 = .ok (.ireturn, 1) := by decide +kernel
theorem dL_power_22 : decode cL_power 22 = .ok (.iconst 0, 1) := by decide +kernel
theorem dL_power_23 : decode cL_power 23 = .ok (.ireturn, 1) := by decide +kernel
set_option maxRecDepth 20000 in
theorem ggL_period_X1_period : GoodIn wsL_period wsX1_period := goodIn_ca (goodIn_ca (goodIn_r _ [7, 8, 9, 10, 11, 12, 13, 6, 14, 15, 16, 17, 18, 19, 20, 21, 22, 23, 24, 25, 26, 27, 28, 29, 30, 31, 32, 33, 34, 35, 36, 37] (by decide +kernel) (by decide +kernel)) (goodIn_sub (fun _ h => List.mem_cons_of_mem _ (List.mem_append_left _ (List.mem_append_right _ h))) (by decide +kernel))) (goodIn_sub (fun _ h => List.mem_cons_of_mem _ (List.mem_append_right _ h)) (by decide +kernel))
set_option maxRecDepth 20000 in
theorem gL_period_X1_period : GoodIn wsL_period (wsV RL 31 RX1 yX1_period wsX1_period) := goodIn_app (goodIn_of _ (by decide +kernel)) ggL_period_X1_period
theorem dL_period_0 : decode cL_period 0 = .ok (.aload_n 3, 1) := by decide +kernel
theorem dL_period_1 : decode cL_period 1 = .ok (.iconst 0, 1) := by decide +kernel
theorem dL_period_2 : decode cL_period 2 = .ok (.aload_n 0, 1) := by decide +kernel
theorem dL_period_3 : decode cL_period 3 = .ok (.iload_n 1, 1) := by decide +kernel
theorem dL_period_4 : decode cL_period 4 = .ok (.iload_n 2, 1) := by decide +kernel
theorem dL_period_5 : decode cL_period 5 = .ok (.invokevirtual 31, 3) := by decide +kernel
theorem dL_period_8 : decode cL_period 8 = .ok (.i2l, 1) := by decide +kernel
theorem dL_period_9 : decode cL_period 9 = .ok (.lastore, 1) := by decide +kernel
theorem dL_period_10 : decode cL_period 10 = .ok (.goto 11, 3) := by decide +kernel
theorem dL_period_13 : decode cL_period 13 = .ok (.astore 4, 2) := by decide +kernel
theorem dL_period_15 : decode cL_period 15 = .ok (.iconst 1, 1) := by decide +kernel
theorem dL_period_16 : decode cL_period 16 = .ok (.ireturn, 1) := by decide +kernel
theorem dL_period_17 : decode cL_period 17 = .ok (.astore 4, 2) := by decide +kernel
theorem dL_period_19 : decode cL_period 19 = .ok (.iconst 2, 1) := by decide +kernel
theorem dL_period_20 : decode cL_period 20 = .ok (.ireturn, 1) := by decide +kernel
theorem dL_period_21 : decode cL_period 21 = .ok (.iconst 0, 1) := by decide +kernel
theorem dL_period_22 : decode cL_period 22 = .ok (.ireturn, 1) := by decide +kernel
set_option maxRecDepth 20000 in
theorem ggL_append_X1_append : GoodIn wsL_append wsX1_append := goodIn_ca (goodIn_ca (goodIn_ca (goodIn_r _ [8, 9, 10, 11, 12, 7, 13, 14, 15, 16, 17, 18, 19, 20, 21, 22, 23, 24, 25, 26, 27, 28, 29, 30] (by decide +kernel) (by decide +kernel)) (goodIn_sub (fun _ h => List.mem_cons_of_mem _ (List.mem_append_left _ (List.mem_append_left _ (List.mem_append_right _ h)))) (by decide +kernel))) (goodIn_sub (fun _ h => List.mem_cons_of_mem _ (List.mem_append_left _ (List.mem_append_right _ h))) (by decide +kernel))) (goodIn_sub (fun _ h => List.mem_cons_of_mem _ (List.mem_append_right _ h)) (by decide +kernel))
set_option maxRecDepth 20000 in
theorem gL_append_X1_append : GoodIn wsL_append (wsV RL 35 RX1 yX1_append wsX1_append) := goodIn_app (goodIn_of _ (by decide +kernel)) ggL_append_X1_append
theorem dL_append_0 : decode cL_append 0 = .ok (.aload_n 3, 1) := by decide +kernel
theorem dL_append_1 : decode cL_append 1 = .ok (.iconst 0, 1) := by decide +kernel
theorem dL_append_2 : decode cL_append 2 = .ok (.aload_n 0, 1) := by decide +kernel
theorem dL_append_3 : decode cL_append 3 = .ok (.iload_n 1, 1) := by decide +kernel
theorem dL_append_4 : decode cL_append 4 = .ok (.iload_n 2, 1) := by decide +kernel
theorem dL_append_5 : decode cL_append 5 = .ok (.invokevirtual 35, 3) := by decide +kernel
theorem dL_append_8 : decode cL_append 8 = .ok (.i2l, 1) := by decide +kernel
theorem dL_append_9 : decode cL_append 9 = .ok (.lastore, 1) := by decide +kernel
theorem dL_append_10 : decode cL_append 10 = .ok (.goto 15, 3) := by decide +kernel
theorem dL_append_13 : decode cL_append 13 = .ok (.astore 4, 2) := by decide +kernel
theorem dL_append_15 : decode cL_append 15 = .ok (.iconst 1, 1) := by decide +kernel
theorem dL_append_16 : decode cL_append 16 = .ok (.ireturn, 1) := by decide +kernel
theorem dL_append_17 : decode cL_append 17 = .ok (.astore 4, 2) := by decide +kernel
theorem dL_append_19 : decode cL_append 19 = .ok (.iconst 2, 1) := by decide +kernel
theorem dL_append_20 : decode cL_append 20 = .ok (.ireturn, 1) := by decide +kernel
theorem dL_append_21 : decode cL_append 21 = .ok (.astore 4, 2) := by decide +kernel
theorem dL_append_23 : decode cL_append 23 = .ok (.iconst 3, 1) := by decide +kernel
theorem dL_append_24 : decode cL_append 24 = .ok (.ireturn, 1) := by decide +kernel
theorem dL_append_25 : decode cL_append 25 = .ok (.iconst 0, 1) := by decide +kernel
theorem dL_append_26 : decode cL_append 26 = .ok (.ireturn, 1) := by decide +kernel
set_option maxRecDepth 20000 in
theorem ggL_appendSeries_X1_appendSeries : GoodIn wsL_appendSeries wsX1_appendSeries := goodIn_ca (goodIn_ca (goodIn_ca (goodIn_r _ [8, 9, 10, 11, 12, 13, 14, 7, 15, 16, 17, 18, 19, 20, 21, 22, 23, 24, 25, 26, 27, 28, 29, 30] (by decide +kernel) (by decide +kernel)) (goodIn_sub (fun _ h => List.mem_cons_of_mem _ (List.mem_append_left _ (List.mem_append_left _ (List.mem_append_right _ h)))) (by decide +kernel))) (goodIn_sub (fun _ h => List.mem_cons_of_mem _ (List.mem_append_left _ (List.mem_append_right _ h))) (by decide +kernel))) (goodIn_sub (fun _ h => List.mem_cons_of_mem _ (List.mem_append_right _ h)) (by decide +kernel))
set_option maxRecDepth 20000 in
theorem gL_appendSeries_X1_appendSeries : GoodIn wsL_appendSeries (wsV RL 38 RX1 yX1_appendSeries wsX1_appendSeries) := goodIn_app (goodIn_of _ (by decide +kernel)) ggL_appendSeries_X1_appendSeries
theorem dL_appendSeries_0 : decode cL_appendSeries 0 = .ok (.aload 5, 2) := by decide +kernel
theorem dL_appendSeries_2 : decode cL_appendSeries 2 = .ok (.iconst 0, 1) := by decide +kernel
theorem dL_appendSeries_3 : decode cL_appendSeries 3 = .ok (.aload_n 0, 1) := by decide +kernel
theorem dL_appendSeries_4 : decode cL_appendSeries 4 = .ok (.iload_n 1, 1) := by decide +kernel
theorem dL_appendSeries_5 : decode cL_appendSeries 5 = .ok (.iload_n 2, 1) := by decide +kernel
theorem dL_appendSeries_6 : decode cL_appendSeries 6 = .ok (.iload_n 3, 1) := by decide +kernel
theorem dL_appendSeries_7 : decode cL_appendSeries 7 = .ok (.iload 4, 2) := by decide +kernel
theorem dL_appendSeries_9 : decode cL_appendSeries 9 = .ok (.invokevirtual 38, 3) := by decide +kernel
theorem dL_appendSeries_12 : decode cL_appendSeries 12 = .ok (.i2l, 1) := by decide +kernel
theorem dL_appendSeries_13 : decode cL_appendSeries 13 = .ok (.lastore, 1) := by decide +kernel
theorem dL_appendSeries_14 : decode cL_appendSeries 14 = .ok (.goto 15, 3) := by decide +kernel
theorem dL_appendSeries_17 : decode cL_appendSeries 17 = .ok (.astore 6, 2) := by decide +kernel
theorem dL_appendSeries_19 : decode cL_appendSeries 19 = .ok (.iconst 1, 1) := by decide +kernel
theorem dL_appendSeries_20 : decode cL_appendSeries 20 = .ok (.ireturn, 1) := by decide +kernel
theorem dL_appendSeries_21 : decode cL_appendSeries 21 = .ok (.astore 6, 2) := by decide +kernel
theorem dL_appendSeries_23 : decode cL_appendSeries 23 = .ok (.iconst 2, 1) := by decide +kernel
theorem dL_appendSeries_24 : decode cL_appendSeries 24 = .ok (.ireturn, 1) := by decide +kernel
theorem dL_appendSeries_25 : decode cL_appendSeries 25 = .ok (.astore 6, 2) := by decide +kernel
theorem dL_appendSeries_27 : decode cL_appendSeries 27 = .ok (.iconst 3, 1) := by decide +kernel
theorem dL_appendSeries_28 : decode cL_appendSeries 28 = .ok (.ireturn, 1) := by decide +kernel
theorem dL_appendSeries_29 : decode cL_appendSeries 29 = .ok (.iconst 0, 1) := by decide +kernel
theorem dL_appendSeries_30 : decode cL_appendSeries 30 = .ok (.ireturn, 1) := by decide +kernel
set_option maxRecDepth 20000 in
theorem ggL_appendRow_X1_appendRow : GoodIn wsL_appendRow wsX1_appendRow := goodIn_ca (goodIn_ca (goodIn_r _ [7, 8, 9, 10, 11, 6, 12, 13, 14, 15, 16, 17, 18, 19, 20, 21, 22, 23, 24] (by decide +kernel) (by decide +kernel)) (goodIn_sub (fun _ h => List.mem_cons_of_mem _ (List.mem_append_left _ (List.mem_append_right _ h))) (by decide +kernel))) (goodIn_sub (fun _ h => List.mem_cons_of_mem _ (List.mem_append_right _ h)) (by decide +kernel))
set_option maxRecDepth 20000 in
theorem gL_appendRow_X1_appendRow : GoodIn wsL_appendRow (wsV RL 42 RX1 yX1_appendRow wsX1_appendRow) := goodIn_app (goodIn_of _ (by decide +kernel)) ggL_appendRow_X1_appendRow
theorem dL_appendRow_0 : decode cL_appendRow 0 = .ok (.aload_n 3, 1) := by decide +kernel
theorem dL_appendRow_1 : decode cL_appendRow 1 = .ok (.iconst 0, 1) := by decide +kernel
theorem dL_appendRow_2 : decode cL_appendRow 2 = .ok (.aload_n 0, 1) := by decide +kernel
theorem dL_appendRow_3 : decode cL_appendRow 3 = .ok (.iload_n 1, 1) := by decide +kernel
theorem dL_appendRow_4 : decode cL_appendRow 4 = .ok (.iload_n 2, 1) := by decide +kernel
theorem dL_appendRow_5 : decode cL_appendRow 5 = .ok (.invokevirtual 42, 3) := by decide +kernel
theorem dL_appendRow_8 : decode cL_appendRow 8 = .ok (.i2l, 1) := by decide +kernel
theorem dL_appendRow_9 : decode cL_appendRow 9 = .ok (.lastore, 1) := by decide +kernel
theorem dL_appendRow_10 : decode cL_appendRow 10 = .ok (.goto 11, 3) := by decide +kernel
theorem dL_appendRow_13 : decode cL_appendRow 13 = .ok (.astore 4, 2) := by decide +kernel
theorem dL_appendRow_15 : decode cL_appendRow 15 = .ok (.iconst 1, 1) := by decide +kernel
theorem dL_appendRow_16 : decode cL_appendRow 16 = .ok (.ireturn, 1) := by decide +kernel
theorem dL_appendRow_17 : decode cL_appendRow 17 = .ok (.astore 4, 2) := by decide +kernel
theorem dL_appendRow_19 : decode cL_appendRow 19 = .ok (.iconst 2, 1) := by decide +kernel
theorem dL_appendRow_20 : decode cL_appendRow 20 = .ok (.ireturn, 1) := by decide +kernel
theorem dL_appendRow_21 : decode cL_appendRow 21 = .ok (.iconst 0, 1) := by decide +kernel
theorem dL_appendRow_22 : decode cL_appendRow 22 = .ok (.ireturn, 1) := by decide +kernel
set_option maxRecDepth 20000 in
theorem ggL_setByte_X1_setByte : GoodIn wsL_setByte wsX1_setByte := goodIn_ca (goodIn_ca (goodIn_r _ [7, 8, 9, 10, 6, 11, 12, 13, 14, 15, 16, 17, 18, 19, 20, 21, 22, 23, 24, 25, 26, 27] (by decide +kernel) (by decide +kernel)) (goodIn_sub (fun _ h => List.mem_cons_of_mem _ (List.mem_append_left _ (List.mem_append_right _ h))) (by decide +kernel))) (goodIn_sub (fun _ h => List.mem_cons_of_mem _ (List.mem_append_right _ h)) (by decide +kernel))
set_option maxRecDepth 20000 in
theorem gL_setByte_X1_setByte : GoodIn wsL_setByte (wsV RL 45 RX1 yX1_setByte wsX1_setByte) := goodIn_app (goodIn_of _ (by decide +kernel)) ggL_setByte_X1_setByte
theorem dL_setByte_0 : decode cL_setByte 0 = .ok (.aload 4, 2) := by decide +kernel
theorem dL_setByte_2 : decode cL_setByte 2 = .ok (.iconst 0, 1) := by decide +kernel
theorem dL_setByte_3 : decode cL_setByte 3 = .ok (.aload_n 0, 1) := by decide +kernel
theorem dL_setByte_4 : decode cL_setByte 4 = .ok (.iload_n 1, 1) := by decide +kernel
theorem dL_setByte_5 : decode cL_setByte 5 = .ok (.iload_n 2, 1) := by decide +kernel
theorem dL_setByte_6 : decode cL_setByte 6 = .ok (.iload_n 3, 1) := by decide +kernel
theorem dL_setByte_7 : decode cL_setByte 7 = .ok (.invokevirtual 45, 3) := by decide +kernel
theorem dL_setByte_10 : decode cL_setByte 10 = .ok (.i2l, 1) := by decide +kernel
theorem dL_setByte_11 : decode cL_setByte 11 = .ok (.lastore, 1) := by decide +kernel
theorem dL_setByte_12 : decode cL_setByte 12 = .ok (.goto 11, 3) := by decide +kernel
theorem dL_setByte_15 : decode cL_setByte 15 = .ok (.astore 5, 2) := by decide +kernel
theorem dL_setByte_17 : decode cL_setByte 17 = .ok (.iconst 1, 1) := by decide +kernel
theorem dL_setByte_18 : decode cL_setByte 18 = .ok (.ireturn, 1) := by decide +kernel
theorem dL_setByte_19 : decode cL_setByte 19 = .ok (.astore 5, 2) := by decide +kernel
theorem dL_setByte_21 : decode cL_setByte 21 = .ok (.iconst 2, 1) := by decide +kernel
theorem dL_setByte_22 : decode cL_setByte 22 = .ok (.ireturn, 1) := by decide +kernel
theorem dL_setByte_23 : decode cL_setByte 23 = .ok (.iconst 0, 1) := by decide +kernel
theorem dL_setByte_24 : decode cL_setByte 24 = .ok (.ireturn, 1) := by decide +kernel
set_option maxRecDepth 20000 in
theorem ggL_truncate_X1_truncate : GoodIn wsL_truncate wsX1_truncate := goodIn_ca (goodIn_ca (goodIn_r _ [7, 8, 9, 10, 11, 12, 6, 13, 14, 15, 16, 17, 18, 19] (by decide +kernel) (by decide +kernel)) (goodIn_sub (fun _ h => List.mem_cons_of_mem _ (List.mem_append_left _ (List.mem_append_right _ h))) (by decide +kernel))) (goodIn_sub (fun _ h => List.mem_cons_of_mem _ (List.mem_append_right _ h)) (by decide +kernel))
set_option maxRecDepth 20000 in
theorem gL_truncate_X1_truncate : GoodIn wsL_truncate (wsV RL 48 RX1 yX1_truncate wsX1_truncate) := goodIn_app (goodIn_of _ (by decide +kernel)) ggL_truncate_X1_truncate
theorem dL_truncate_0 : decode cL_truncate 0 = .ok (.aload_n 3, 1) := by decide +kernel
theorem dL_truncate_1 : decode cL_truncate 1 = .ok (.iconst 0, 1) := by decide +kernel
theorem dL_truncate_2 : decode cL_truncate 2 = .ok (.aload_n 0, 1) := by decide +kernel
theorem dL_truncate_3 : decode cL_truncate 3 = .ok (.iload_n 1, 1) := by decide +kernel
theorem dL_truncate_4 : decode cL_truncate 4 = .ok (.iload_n 2, 1) := by decide +kernel
theorem dL_truncate_5 : decode cL_truncate 5 = .ok (.invokevirtual 48, 3) := by decide +kernel
theorem dL_truncate_8 : decode cL_truncate 8 = .ok (.i2l, 1) := by decide +kernel
theorem dL_truncate_9 : decode cL_truncate 9 = .ok (.lastore, 1) := by decide +kernel
theorem dL_truncate_10 : decode cL_truncate 10 = .ok (.goto 11, 3) := by decide +kernel
theorem dL_truncate_13 : decode cL_truncate 13 = .ok (.astore 4, 2) := by decide +kernel
theorem dL_truncate_15 : decode cL_truncate 15 = .ok (.iconst 1, 1) := by decide +kernel
theorem dL_truncate_16 : decode cL_truncate 16 = .ok (.ireturn, 1) := by decide +kernel
theorem dL_truncate_17 : decode cL_truncate 17 = .ok (.astore 4, 2) := by decide +kernel
theorem dL_truncate_19 : decode cL_truncate 19 = .ok (.iconst 2, 1) := by decide +kernel
theorem dL_truncate_20 : decode cL_truncate 20 = .ok (.ireturn, 1) := by decide +kernel
theorem dL_truncate_21 : decode cL_truncate 21 = .ok (.iconst 0, 1) := by decide +kernel
theorem dL_truncate_22 : decode cL_truncate 22 = .ok (.ireturn, 1) := by decide +kernel
set_option maxRecDepth 20000 in
theorem ggL_length_X1_length : GoodIn wsL_length wsX1_length := goodIn_ca (goodIn_r _ [6, 7, 8, 9, 5, 10, 11, 12, 13, 14, 15, 16] (by decide +kernel) (by decide +kernel)) (goodIn_sub (fun _ h => List.mem_cons_of_mem _ (List.mem_append_right _ h)) (by decide +kernel))
set_option maxRecDepth 20000 in
theorem gL_length_X1_length : GoodIn wsL_length (wsV RL 51 RX1 yX1_length wsX1_length) := goodIn_app (goodIn_of _ (by decide +kernel)) ggL_length_X1_length
theorem dL_length_0 : decode cL_length 0 = .ok (.aload_n 2, 1) := by decide +kernel
theorem dL_length_1 : decode cL_length 1 = .ok (.iconst 0, 1) := by decide +kernel
theorem dL_length_2 : decode cL_length 2 = .ok (.aload_n 0, 1) := by decide +kernel
theorem dL_length_3 : decode cL_length 3 = .ok (.iload_n 1, 1) := by decide +kernel
theorem dL_length_4 : decode cL_length 4 = .ok (.invokevirtual 51, 3) := by decide +kernel
theorem dL_length_7 : decode cL_length 7 = .ok (.i2l, 1) := by decide +kernel
theorem dL_length_8 : decode cL_length 8 = .ok (.lastore, 1) := by decide +kernel
theorem dL_length_9 : decode cL_length 9 = .ok (.goto 6, 3) := by decide +kernel
theorem dL_length_12 : decode cL_length 12 = .ok (.astore_n 3, 1) := by decide +kernel
theorem dL_length_13 : decode cL_length 13 = .ok (.iconst 1, 1) := by decide +kernel
theorem dL_length_14 : decode cL_length 14 = .ok (.ireturn, 1) := by decide +kernel
theorem dL_length_15 : decode cL_length 15 = .ok (.iconst 0, 1) := by decide +kernel
theorem dL_length_16 : decode cL_length 16 = .ok (.ireturn, 1) := by decide +kernel
set_option maxRecDepth 20000 in
theorem ggL_byteAt_X1_byteAt : GoodIn wsL_byteAt wsX1_byteAt := goodIn_ca (goodIn_r _ [6, 7, 8, 9, 5, 10, 11, 12, 13, 14, 15, 16, 17, 18, 19, 20, 21] (by decide +kernel) (by decide +kernel)) (goodIn_sub (fun _ h => List.mem_cons_of_mem _ (List.mem_append_right _ h)) (by decide +kernel))
set_option maxRecDepth 20000 in
theorem gL_byteAt_X1_byteAt : GoodIn wsL_byteAt (wsV RL 54 RX1 yX1_byteAt wsX1_byteAt) := goodIn_app (goodIn_of _ (by decide +kernel)) ggL_byteAt_X1_byteAt
theorem dL_byteAt_0 : decode cL_byteAt 0 = .ok (.aload_n 3, 1) := by decide +kernel
theorem dL_byteAt_1 : decode cL_byteAt 1 = .ok (.iconst 0, 1) := by decide +kernel
theorem dL_byteAt_2 : decode cL_byteAt 2 = .ok (.aload_n 0, 1) := by decide +kernel
theorem dL_byteAt_3 : decode cL_byteAt 3 = .ok (.iload_n 1, 1) := by decide +kernel
theorem dL_byteAt_4 : decode cL_byteAt 4 = .ok (.iload_n 2, 1) := by decide +kernel
theorem dL_byteAt_5 : decode cL_byteAt 5 = .ok (.invokevirtual 54, 3) := by decide +kernel
theorem dL_byteAt_8 : decode cL_byteAt 8 = .ok (.i2l, 1) := by decide +kernel
theorem dL_byteAt_9 : decode cL_byteAt 9 = .ok (.lastore, 1) := by decide +kernel
theorem dL_byteAt_10 : decode cL_byteAt 10 = .ok (.goto 7, 3) := by decide +kernel
theorem dL_byteAt_13 : decode cL_byteAt 13 = .ok (.astore 4, 2) := by decide +kernel
theorem dL_byteAt_15 : decode cL_byteAt 15 = .ok (.iconst 1, 1) := by decide +kernel
theorem dL_byteAt_16 : decode cL_byteAt 16 = .ok (.ireturn, 1) := by decide +kernel
theorem dL_byteAt_17 : decode cL_byteAt 17 = .ok (.iconst 0, 1) := by decide +kernel
theorem dL_byteAt_18 : decode cL_byteAt 18 = .ok (.ireturn, 1) := by decide +kernel
set_option maxRecDepth 20000 in
theorem ggL_sum_X1_sum : GoodIn wsL_sum wsX1_sum := goodIn_ca (goodIn_r _ [6, 7, 8, 9, 10, 5, 11, 12, 13, 14, 15, 16, 17, 18, 19, 20, 21, 22, 23, 24, 25, 26, 27, 28, 29, 30, 31, 32, 33, 34, 35, 36, 37, 38, 39, 40, 41, 42, 43, 44, 45, 46, 47, 48, 49, 50, 51, 52, 53, 54, 55, 56, 57, 58, 59, 60, 61, 62, 63, 64, 65, 66, 67, 68, 69] (by decide +kernel) (by decide +kernel)) (goodIn_sub (fun _ h => List.mem_cons_of_mem _ (List.mem_append_right _ h)) (by decide +kernel))
set_option maxRecDepth 20000 in
theorem gL_sum_X1_sum : GoodIn wsL_sum (wsV RL 57 RX1 yX1_sum wsX1_sum) := goodIn_app (goodIn_of _ (by decide +kernel)) ggL_sum_X1_sum
theorem dL_sum_0 : decode cL_sum 0 = .ok (.aload_n 3, 1) := by decide +kernel
theorem dL_sum_1 : decode cL_sum 1 = .ok (.iconst 0, 1) := by decide +kernel
theorem dL_sum_2 : decode cL_sum 2 = .ok (.aload_n 0, 1) := by decide +kernel
theorem dL_sum_3 : decode cL_sum 3 = .ok (.iload_n 1, 1) := by decide +kernel
theorem dL_sum_4 : decode cL_sum 4 = .ok (.iload_n 2, 1) := by decide +kernel
theorem dL_sum_5 : decode cL_sum 5 = .ok (.invokevirtual 57, 3) := by decide +kernel
theorem dL_sum_8 : decode cL_sum 8 = .ok (.i2l, 1) := by decide +kernel
theorem dL_sum_9 : decode cL_sum 9 = .ok (.lastore, 1) := by decide +kernel
theorem dL_sum_10 : decode cL_sum 10 = .ok (.goto 7, 3) := by decide +kernel
theorem dL_sum_13 : decode cL_sum 13 = .ok (.astore 4, 2) := by decide +kernel
theorem dL_sum_15 : decode cL_sum 15 = .ok (.iconst 1, 1) := by decide +kernel
theorem dL_sum_16 : decode cL_sum 16 = .ok (.ireturn, 1) := by decide +kernel
theorem dL_sum_17 : decode cL_sum 17 = .ok (.iconst 0, 1) := by decide +kernel
theorem dL_sum_18 : decode cL_sum 18 = .ok (.ireturn, 1) := by decide +kernel
set_option maxRecDepth 20000 in
theorem ggL_sumOfPart_X1_sumOfPart : GoodIn wsL_sumOfPart wsX1_sumOfPart := goodIn_ca (goodIn_r _ [6, 7, 8, 9, 10, 11, 12, 5, 13, 14, 15, 16, 17, 18, 19, 20, 21, 22, 23, 24, 25, 26, 27, 28, 29, 30, 31, 32, 33, 34, 35, 36, 37, 38, 39, 40, 41, 42, 43, 44, 45, 46, 47, 48, 49, 50, 51, 52, 53, 54, 55, 56, 57, 58, 59, 60, 61, 62, 63, 64, 65, 66, 67, 68, 69] (by decide +kernel) (by decide +kernel)) (goodIn_sub (fun _ h => List.mem_cons_of_mem _ (List.mem_append_right _ h)) (by decide +kernel))
set_option maxRecDepth 20000 in
theorem gL_sumOfPart_X1_sumOfPart : GoodIn wsL_sumOfPart (wsV RL 60 RX1 yX1_sumOfPart wsX1_sumOfPart) := goodIn_app (goodIn_of _ (by decide +kernel)) ggL_sumOfPart_X1_sumOfPart
theorem dL_sumOfPart_0 : decode cL_sumOfPart 0 = .ok (.aload 5, 2) := by decide +kernel
theorem dL_sumOfPart_2 : decode cL_sumOfPart 2 = .ok (.iconst 0, 1) := by decide +kernel
theorem dL_sumOfPart_3 : decode cL_sumOfPart 3 = .ok (.aload_n 0, 1) := by decide +kernel
theorem dL_sumOfPart_4 : decode cL_sumOfPart 4 = .ok (.iload_n 1, 1) := by decide +kernel
theorem dL_sumOfPart_5 : decode cL_sumOfPart 5 = .ok (.iload_n 2, 1) := by decide +kernel
theorem dL_sumOfPart_6 : decode cL_sumOfPart 6 = .ok (.iload_n 3, 1) := by decide +kernel
theorem dL_sumOfPart_7 : decode cL_sumOfPart 7 = .ok (.iload 4, 2) := by decide +kernel
theorem dL_sumOfPart_9 : decode cL_sumOfPart 9 = .ok (.invokevirtual 60, 3) := by decide +kernel
theorem dL_sumOfPart_12 : decode cL_sumOfPart 12 = .ok (.i2l, 1) := by decide +kernel
theorem dL_sumOfPart_13 : decode cL_sumOfPart 13 = .ok (.lastore, 1) := by decide +kernel
theorem dL_sumOfPart_14 : decode cL_sumOfPart 14 = .ok (.goto 7, 3) := by decide +kernel
theorem dL_sumOfPart_17 : decode cL_sumOfPart 17 = .ok (.astore 6, 2) := by decide +kernel
theorem dL_sumOfPart_19 : decode cL_sumOfPart 19 = .ok (.iconst 1, 1) := by decide +kernel
theorem dL_sumOfPart_20 : decode cL_sumOfPart 20 = .ok (.ireturn, 1) := by decide +kernel
theorem dL_sumOfPart_21 : decode cL_sumOfPart 21 = .ok (.iconst 0, 1) := by decide +kernel
theorem dL_sumOfPart_22 : decode cL_sumOfPart 22 = .ok (.ireturn, 1) := by decide +kernel
set_option maxRecDepth 20000 in
theorem ggL_remainder_X1_remainder : GoodIn wsL_remainder wsX1_remainder := goodIn_ca (goodIn_r _ [6, 7, 8, 9, 10, 11, 5, 12, 13, 14, 15, 16, 17, 18, 19, 20, 21, 22, 23, 24, 25, 26, 27, 28, 29, 30, 31, 32, 33, 34, 35, 36, 37, 38, 39, 40, 41, 42] (by decide +kernel) (by decide +kernel)) (goodIn_sub (fun _ h => List.mem_cons_of_mem _ (List.mem_append_right _ h)) (by decide +kernel))
set_option maxRecDepth 20000 in
theorem gL_remainder_X1_remainder : GoodIn wsL_remainder (wsV RL 63 RX1 yX1_remainder wsX1_remainder) := goodIn_app (goodIn_of _ (by decide +kernel)) ggL_remainder_X1_remainder
theorem dL_remainder_0 : decode cL_remainder 0 = .ok (.aload_n 3, 1) := by decide +kernel
theorem dL_remainder_1 : decode cL_remainder 1 = .ok (.iconst 0, 1) := by decide +kernel
theorem dL_remainder_2 : decode cL_remainder 2 = .ok (.aload_n 0, 1) := by decide +kernel
theorem dL_remainder_3 : decode cL_remainder 3 = .ok (.iload_n 1, 1) := by decide +kernel
theorem dL_remainder_4 : decode cL_remainder 4 = .ok (.iload_n 2, 1) := by decide +kernel
theorem dL_remainder_5 : decode cL_remainder 5 = .ok (.invokevirtual 63, 3) := by decide +kernel
theorem dL_remainder_8 : decode cL_remainder 8 = .ok (.i2l, 1) := by decide +kernel
theorem dL_remainder_9 : decode cL_remainder 9 = .ok (.lastore, 1) := by decide +kernel
theorem dL_remainder_10 : decode cL_remainder 10 = .ok (.goto 7, 3) := by decide +kernel
theorem dL_remainder_13 : decode cL_remainder 13 = .ok (.astore 4, 2) := by decide +kernel
theorem dL_remainder_15 : decode cL_remainder 15 = .ok (.iconst 1, 1) := by decide +kernel
theorem dL_remainder_16 : decode cL_remainder 16 = .ok (.ireturn, 1) := by decide +kernel
theorem dL_remainder_17 : decode cL_remainder 17 = .ok (.iconst 0, 1) := by decide +kernel
theorem dL_remainder_18 : decode cL_remainder 18 = .ok (.ireturn, 1) := by decide +kernel
set_option maxRecDepth 20000 in
theorem ggL_joined_X1_joined : GoodIn wsL_joined wsX1_joined := goodIn_ca (goodIn_ca (goodIn_r _ [7, 8, 9, 10, 11, 12, 13, 6, 14, 15, 16, 17, 18, 19, 20, 21, 22, 23, 24, 25, 26, 27, 28, 29, 30, 31, 32, 33, 34, 35, 36, 37, 38, 39, 40, 41, 42, 43, 44, 45, 46, 47, 48, 49, 50, 51, 52, 53, 54, 55, 56, 57, 58, 59, 60, 61, 62, 63, 64, 65, 66, 67, 68, 69, 70, 71] (by decide +kernel) (by decide +kernel)) (goodIn_sub (fun _ h => List.mem_cons_of_mem _ (List.mem_append_left _ (List.mem_append_right _ h))) (by decide +kernel))) (goodIn_sub (fun _ h => List.mem_cons_of_mem _ (List.mem_append_right _ h)) (by decide +kernel))
set_option maxRecDepth 20000 in
theorem gL_joined_X1_joined : GoodIn wsL_joined (wsV RL 66 RX1 yX1_joined wsX1_joined) := goodIn_app (goodIn_of _ (by decide +kernel)) ggL_joined_X1_joined
theorem dL_joined_0 : decode cL_joined 0 = .ok (.aload 5, 2) := by decide +kernel
theorem dL_joined_2 : decode cL_joined 2 = .ok (.iconst 0, 1) := by decide +kernel
theorem dL_joined_3 : decode cL_joined 3 = .ok (.aload_n 0, 1) := by decide +kernel
theorem dL_joined_4 : decode cL_joined 4 = .ok (.iload_n 1, 1) := by decide +kernel
theorem dL_joined_5 : decode cL_joined 5 = .ok (.iload_n 2, 1) := by decide +kernel
theorem dL_joined_6 : decode cL_joined 6 = .ok (.iload_n 3, 1) := by decide +kernel
theorem dL_joined_7 : decode cL_joined 7 = .ok (.iload 4, 2) := by decide +kernel
theorem dL_joined_9 : decode cL_joined 9 = .ok (.invokevirtual 66, 3) := by decide +kernel
theorem dL_joined_12 : decode cL_joined 12 = .ok (.i2l, 1) := by decide +kernel
theorem dL_joined_13 : decode cL_joined 13 = .ok (.lastore, 1) := by decide +kernel
theorem dL_joined_14 : decode cL_joined 14 = .ok (.goto 11, 3) := by decide +kernel
theorem dL_joined_17 : decode cL_joined 17 = .ok (.astore 6, 2) := by decide +kernel
theorem dL_joined_19 : decode cL_joined 19 = .ok (.iconst 1, 1) := by decide +kernel
theorem dL_joined_20 : decode cL_joined 20 = .ok (.ireturn, 1) := by decide +kernel
theorem dL_joined_21 : decode cL_joined 21 = .ok (.astore 6, 2) := by decide +kernel
theorem dL_joined_23 : decode cL_joined 23 = .ok (.iconst 2, 1) := by decide +kernel
theorem dL_joined_24 : decode cL_joined 24 = .ok (.ireturn, 1) := by decide +kernel
theorem dL_joined_25 : decode cL_joined 25 = .ok (.iconst 0, 1) := by decide +kernel
theorem dL_joined_26 : decode cL_joined 26 = .ok (.ireturn, 1) := by decide +kernel
set_option maxRecDepth 20000 in
theorem ggL_patched_X1_patched : GoodIn wsL_patched wsX1_patched := goodIn_ca (goodIn_ca (goodIn_r _ [7, 8, 9, 10, 11, 12, 6, 13, 14, 15, 16, 17, 18, 19, 20, 21, 22, 23, 24, 25, 26, 27, 28, 29, 30, 31, 32, 33, 34, 35, 36, 37, 38, 39, 40, 41, 42, 43, 44, 45, 46, 47, 48, 49, 50, 51, 52, 53, 54, 55, 56, 57, 58, 59, 60, 61, 62, 63, 64, 65, 66, 67, 68, 69, 70, 71, 72, 73, 74, 75, 76, 77, 78, 79, 80, 81, 82] (by decide +kernel) (by decide +kernel)) (goodIn_sub (fun _ h => List.mem_cons_of_mem _ (List.mem_append_left _ (List.mem_append_right _ h))) (by decide +kernel))) (goodIn_sub (fun _ h => List.mem_cons_of_mem _ (List.mem_append_right _ h)) (by decide +kernel))
set_option maxRecDepth 20000 in
theorem gL_patched_X1_patched : GoodIn wsL_patched (wsV RL 69 RX1 yX1_patched wsX1_patched) := goodIn_app (goodIn_of _ (by decide +kernel)) ggL_patched_X1_patched
theorem dL_patched_0 : decode cL_patched 0 = .ok (.aload 5, 2) := by decide +kernel
theorem dL_patched_2 : decode cL_patched 2 = .ok (.iconst 0, 1) := by decide +kernel
theorem dL_patched_3 : decode cL_patched 3 = .ok (.aload_n 0, 1) := by decide +kernel
theorem dL_patched_4 : decode cL_patched 4 = .ok (.iload_n 1, 1) := by decide +kernel
theorem dL_patched_5 : decode cL_patched 5 = .ok (.iload_n 2, 1) := by decide +kernel
theorem dL_patched_6 : decode cL_patched 6 = .ok (.iload_n 3, 1) := by decide +kernel
theorem dL_patched_7 : decode cL_patched 7 = .ok (.iload 4, 2) := by decide +kernel
theorem dL_patched_9 : decode cL_patched 9 = .ok (.invokevirtual 69, 3) := by decide +kernel
theorem dL_patched_12 : decode cL_patched 12 = .ok (.i2l, 1) := by decide +kernel
theorem dL_patched_13 : decode cL_patched 13 = .ok (.lastore, 1) := by decide +kernel
theorem dL_patched_14 : decode cL_patched 14 = .ok (.goto 11, 3) := by decide +kernel
theorem dL_patched_17 : decode cL_patched 17 = .ok (.astore 6, 2) := by decide +kernel
theorem dL_patched_19 : decode cL_patched 19 = .ok (.iconst 1, 1) := by decide +kernel
theorem dL_patched_20 : decode cL_patched 20 = .ok (.ireturn, 1) := by decide +kernel
theorem dL_patched_21 : decode cL_patched 21 = .ok (.astore 6, 2) := by decide +kernel
theorem dL_patched_23 : decode cL_patched 23 = .ok (.iconst 2, 1) := by decide +kernel
theorem dL_patched_24 : decode cL_patched 24 = .ok (.ireturn, 1) := by decide +kernel
theorem dL_patched_25 : decode cL_patched 25 = .ok (.iconst 0, 1) := by decide +kernel
theorem dL_patched_26 : decode cL_patched 26 = .ok (.ireturn, 1) := by decide +kernel
set_option maxRecDepth 20000 in
theorem ggL_wrongBit_X1_wrongBit : GoodIn wsL_wrongBit wsX1_wrongBit := goodIn_ca (goodIn_ca (goodIn_r _ [7, 8, 9, 10, 11, 12, 13, 14, 6, 15, 16, 17, 18, 19, 20, 21, 22, 23, 24, 25, 26, 27, 28, 29, 30, 31, 32, 33, 34, 35, 36, 37, 38, 39, 40, 41, 42, 43, 44, 45, 46, 47, 48, 49] (by decide +kernel) (by decide +kernel)) (goodIn_sub (fun _ h => List.mem_cons_of_mem _ (List.mem_append_left _ (List.mem_append_right _ h))) (by decide +kernel))) (goodIn_sub (fun _ h => List.mem_cons_of_mem _ (List.mem_append_right _ h)) (by decide +kernel))
set_option maxRecDepth 20000 in
theorem gL_wrongBit_X1_wrongBit : GoodIn wsL_wrongBit (wsV RL 72 RX1 yX1_wrongBit wsX1_wrongBit) := goodIn_app (goodIn_of _ (by decide +kernel)) ggL_wrongBit_X1_wrongBit
theorem dL_wrongBit_0 : decode cL_wrongBit 0 = .ok (.aload 4, 2) := by decide +kernel
theorem dL_wrongBit_2 : decode cL_wrongBit 2 = .ok (.iconst 0, 1) := by decide +kernel
theorem dL_wrongBit_3 : decode cL_wrongBit 3 = .ok (.aload_n 0, 1) := by decide +kernel
theorem dL_wrongBit_4 : decode cL_wrongBit 4 = .ok (.iload_n 1, 1) := by decide +kernel
theorem dL_wrongBit_5 : decode cL_wrongBit 5 = .ok (.iload_n 2, 1) := by decide +kernel
theorem dL_wrongBit_6 : decode cL_wrongBit 6 = .ok (.iload_n 3, 1) := by decide +kernel
theorem dL_wrongBit_7 : decode cL_wrongBit 7 = .ok (.invokevirtual 72, 3) := by decide +kernel
theorem dL_wrongBit_10 : decode cL_wrongBit 10 = .ok (.i2l, 1) := by decide +kernel
theorem dL_wrongBit_11 : decode cL_wrongBit 11 = .ok (.lastore, 1) := by decide +kernel
theorem dL_wrongBit_12 : decode cL_wrongBit 12 = .ok (.goto 11, 3) := by decide +kernel
theorem dL_wrongBit_15 : decode cL_wrongBit 15 = .ok (.astore 5, 2) := by decide +kernel
theorem dL_wrongBit_17 : decode cL_wrongBit 17 = .ok (.iconst 1, 1) := by decide +kernel
theorem dL_wrongBit_18 : decode cL_wrongBit 18 = .ok (.ireturn, 1) := by decide +kernel
theorem dL_wrongBit_19 : decode cL_wrongBit 19 = .ok (.astore 5, 2) := by decide +kernel
theorem dL_wrongBit_21 : decode cL_wrongBit 21 = .ok (.iconst 2, 1) := by decide +kernel
theorem dL_wrongBit_22 : decode cL_wrongBit 22 = .ok (.ireturn, 1) := by decide +kernel
theorem dL_wrongBit_23 : decode cL_wrongBit 23 = .ok (.iconst 0, 1) := by decide +kernel
theorem dL_wrongBit_24 : decode cL_wrongBit 24 = .ok (.ireturn, 1) := by decide +kernel
set_option maxRecDepth 20000 in
theorem ggL_fletcher_X1_fletcher : GoodIn wsL_fletcher wsX1_fletcher := goodIn_ca (goodIn_r _ [6, 7, 8, 9, 10, 5, 11, 12, 13, 14, 15, 16, 17] (by decide +kernel) (by decide +kernel)) (goodIn_sub (fun _ h => List.mem_cons_of_mem _ (List.mem_append_right _ h)) (by decide +kernel))
set_option maxRecDepth 20000 in
theorem gL_fletcher_X1_fletcher : GoodIn wsL_fletcher (wsV RL 75 RX1 yX1_fletcher wsX1_fletcher) := goodIn_app (goodIn_of _ (by decide +kernel)) ggL_fletcher_X1_fletcher
theorem dL_fletcher_0 : decode cL_fletcher 0 = .ok (.aload_n 2, 1) := by decide +kernel
theorem dL_fletcher_1 : decode cL_fletcher 1 = .ok (.iconst 0, 1) := by decide +kernel
theorem dL_fletcher_2 : decode cL_fletcher 2 = .ok (.aload_n 0, 1) := by decide +kernel
theorem dL_fletcher_3 : decode cL_fletcher 3 = .ok (.iload_n 1, 1) := by decide +kernel
theorem dL_fletcher_4 : decode cL_fletcher 4 = .ok (.invokevirtual 75, 3) := by decide +kernel
theorem dL_fletcher_7 : decode cL_fletcher 7 = .ok (.i2l, 1) := by decide +kernel
theorem dL_fletcher_8 : decode cL_fletcher 8 = .ok (.lastore, 1) := by decide +kernel
theorem dL_fletcher_9 : decode cL_fletcher 9 = .ok (.goto 6, 3) := by decide +kernel
theorem dL_fletcher_12 : decode cL_fletcher 12 = .ok (.astore_n 3, 1) := by decide +kernel
theorem dL_fletcher_13 : decode cL_fletcher 13 = .ok (.iconst 1, 1) := by decide +kernel
theorem dL_fletcher_14 : decode cL_fletcher 14 = .ok (.ireturn, 1) := by decide +kernel
theorem dL_fletcher_15 : decode cL_fletcher 15 = .ok (.iconst 0, 1) := by decide +kernel
theorem dL_fletcher_16 : decode cL_fletcher 16 = .ok (.ireturn, 1) := by decide +kernel
set_option maxRecDepth 20000 in
theorem ggL_fletcherJoined_X1_fletcherJoined : GoodIn wsL_fletcherJoined wsX1_fletcherJoined := goodIn_ca (goodIn_r _ [6, 7, 8, 9, 5, 10, 11, 12, 13, 14, 15] (by decide +kernel) (by decide +kernel)) (goodIn_sub (fun _ h => List.mem_cons_of_mem _ (List.mem_append_right _ h)) (by decide +kernel))
set_option maxRecDepth 20000 in
theorem gL_fletcherJoined_X1_fletcherJoined : GoodIn wsL_fletcherJoined (wsV RL 78 RX1 yX1_fletcherJoined wsX1_fletcherJoined) := goodIn_app (goodIn_of _ (by decide +kernel)) ggL_fletcherJoined_X1_fletcherJoined
theorem dL_fletcherJoined_0 : decode cL_fletcherJoined 0 = .ok (.aload 4, 2) := by decide +kernel
theorem dL_fletcherJoined_2 : decode cL_fletcherJoined 2 = .ok (.iconst 0, 1) := by decide +kernel
theorem dL_fletcherJoined_3 : decode cL_fletcherJoined 3 = .ok (.aload_n 0, 1) := by decide +kernel
theorem dL_fletcherJoined_4 : decode cL_fletcherJoined 4 = .ok (.iload_n 1, 1) := by decide +kernel
theorem dL_fletcherJoined_5 : decode cL_fletcherJoined 5 = .ok (.iload_n 2, 1) := by decide +kernel
theorem dL_fletcherJoined_6 : decode cL_fletcherJoined 6 = .ok (.iload_n 3, 1) := by decide +kernel
theorem dL_fletcherJoined_7 : decode cL_fletcherJoined 7 = .ok (.invokevirtual 78, 3) := by decide +kernel
theorem dL_fletcherJoined_10 : decode cL_fletcherJoined 10 = .ok (.i2l, 1) := by decide +kernel
theorem dL_fletcherJoined_11 : decode cL_fletcherJoined 11 = .ok (.lastore, 1) := by decide +kernel
theorem dL_fletcherJoined_12 : decode cL_fletcherJoined 12 = .ok (.goto 7, 3) := by decide +kernel
theorem dL_fletcherJoined_15 : decode cL_fletcherJoined 15 = .ok (.astore 5, 2) := by decide +kernel
theorem dL_fletcherJoined_17 : decode cL_fletcherJoined 17 = .ok (.iconst 1, 1) := by decide +kernel
theorem dL_fletcherJoined_18 : decode cL_fletcherJoined 18 = .ok (.ireturn, 1) := by decide +kernel
theorem dL_fletcherJoined_19 : decode cL_fletcherJoined 19 = .ok (.iconst 0, 1) := by decide +kernel
theorem dL_fletcherJoined_20 : decode cL_fletcherJoined 20 = .ok (.ireturn, 1) := by decide +kernel
set_option maxRecDepth 20000 in
theorem ggL_adler_X1_adler : GoodIn wsL_adler wsX1_adler := goodIn_ca (goodIn_r _ [6, 7, 8, 9, 10, 11, 5, 12, 13, 14, 15, 16, 17, 18, 19, 20, 21, 22, 23, 24, 25, 26] (by decide +kernel) (by decide +kernel)) (goodIn_sub (fun _ h => List.mem_cons_of_mem _ (List.mem_append_right _ h)) (by decide +kernel))
set_option maxRecDepth 20000 in
theorem gL_adler_X1_adler : GoodIn wsL_adler (wsV RL 81 RX1 yX1_adler wsX1_adler) := goodIn_app (goodIn_of _ (by decide +kernel)) ggL_adler_X1_adler
theorem dL_adler_0 : decode cL_adler 0 = .ok (.aload_n 2, 1) := by decide +kernel
theorem dL_adler_1 : decode cL_adler 1 = .ok (.iconst 0, 1) := by decide +kernel
theorem dL_adler_2 : decode cL_adler 2 = .ok (.aload_n 0, 1) := by decide +kernel
theorem dL_adler_3 : decode cL_adler 3 = .ok (.iload_n 1, 1) := by decide +kernel
theorem dL_adler_4 : decode cL_adler 4 = .ok (.invokevirtual 81, 3) := by decide +kernel
theorem dL_adler_7 : decode cL_adler 7 = .ok (.i2l, 1) := by decide +kernel
theorem dL_adler_8 : decode cL_adler 8 = .ok (.lastore, 1) := by decide +kernel
theorem dL_adler_9 : decode cL_adler 9 = .ok (.goto 6, 3) := by decide +kernel
theorem dL_adler_12 : decode cL_adler 12 = .ok (.astore_n 3, 1) := by decide +kernel
theorem dL_adler_13 : decode cL_adler 13 = .ok (.iconst 1, 1) := by decide +kernel
theorem dL_adler_14 : decode cL_adler 14 = .ok (.ireturn, 1) := by decide +kernel
theorem dL_adler_15 : decode cL_adler 15 = .ok (.iconst 0, 1) := by decide +kernel
theorem dL_adler_16 : decode cL_adler 16 = .ok (.ireturn, 1) := by decide +kernel
set_option maxRecDepth 20000 in
theorem ggL_adlerJoined_X1_adlerJoined : GoodIn wsL_adlerJoined wsX1_adlerJoined := goodIn_ca (goodIn_r _ [6, 7, 8, 5, 9, 10, 11, 12, 13, 14, 15, 16, 17, 18, 19, 20, 21, 22, 23, 24, 25, 26, 27, 28, 29, 30] (by decide +kernel) (by decide +kernel)) (goodIn_sub (fun _ h => List.mem_cons_of_mem _ (List.mem_append_right _ h)) (by decide +kernel))
set_option maxRecDepth 20000 in
theorem gL_adlerJoined_X1_adlerJoined : GoodIn wsL_adlerJoined (wsV RL 84 RX1 yX1_adlerJoined wsX1_adlerJoined) := goodIn_app (goodIn_of _ (by decide +kernel)) ggL_adlerJoined_X1_adlerJoined
theorem dL_adlerJoined_0 : decode cL_adlerJoined 0 = .ok (.aload 4, 2) := by decide +kernel
theorem dL_adlerJoined_2 : decode cL_adlerJoined 2 = .ok (.iconst 0, 1) := by decide +kernel
theorem dL_adlerJoined_3 : decode cL_adlerJoined 3 = .ok (.aload_n 0, 1) := by decide +kernel
theorem dL_adlerJoined_4 : decode cL_adlerJoined 4 = .ok (.iload_n 1, 1) := by decide +kernel
theorem dL_adlerJoined_5 : decode cL_adlerJoined 5 = .ok (.iload_n 2, 1) := by decide +kernel
theorem dL_adlerJoined_6 : decode cL_adlerJoined 6 = .ok (.iload_n 3, 1) := by decide +kernel
theorem dL_adlerJoined_7 : decode cL_adlerJoined 7 = .ok (.invokevirtual 84, 3) := by decide +kernel
theorem dL_adlerJoined_10 : decode cL_adlerJoined 10 = .ok (.i2l, 1) := by decide +kernel
theorem dL_adlerJoined_11 : decode cL_adlerJoined 11 = .ok (.lastore, 1) := by decide +kernel
theorem dL_adlerJoined_12 : decode cL_adlerJoined 12 = .ok (.goto 7, 3) := by decide +kernel
theorem dL_adlerJoined_15 : decode cL_adlerJoined 15 = .ok (.astore 5, 2) := by decide +kernel
theorem dL_adlerJoined_17 : decode cL_adlerJoined 17 = .ok (.iconst 1, 1) := by decide +kernel
theorem dL_adlerJoined_18 : decode cL_adlerJoined 18 = .ok (.ireturn, 1) := by decide +kernel
theorem dL_adlerJoined_19 : decode cL_adlerJoined 19 = .ok (.iconst 0, 1) := by decide +kernel
theorem dL_adlerJoined_20 : decode cL_adlerJoined 20 = .ok (.ireturn, 1) := by decide +kernel
set_option maxRecDepth 20000 in
theorem ggL_adlerRolled_X1_adlerRolled : GoodIn wsL_adlerRolled wsX1_adlerRolled := goodIn_ca (goodIn_r _ [6, 7, 8, 9, 10, 5, 11, 12, 13, 14, 15, 16, 17, 18, 19, 20, 21, 22, 23, 24, 25, 26, 27, 28, 29, 30] (by decide +kernel) (by decide +kernel)) (goodIn_sub (fun _ h => List.mem_cons_of_mem _ (List.mem_append_right _ h)) (by decide +kernel))
set_option maxRecDepth 20000 in
theorem gL_adlerRolled_X1_adlerRolled : GoodIn wsL_adlerRolled (wsV RL 87 RX1 yX1_adlerRolled wsX1_adlerRolled) := goodIn_app (goodIn_of _ (by decide +kernel)) ggL_adlerRolled_X1_adlerRolled
theorem dL_adlerRolled_0 : decode cL_adlerRolled 0 = .ok (.aload 5, 2) := by decide +kernel
theorem dL_adlerRolled_2 : decode cL_adlerRolled 2 = .ok (.iconst 0, 1) := by decide +kernel
theorem dL_adlerRolled_3 : decode cL_adlerRolled 3 = .ok (.aload_n 0, 1) := by decide +kernel
theorem dL_adlerRolled_4 : decode cL_adlerRolled 4 = .ok (.iload_n 1, 1) := by decide +kernel
theorem dL_adlerRolled_5 : decode cL_adlerRolled 5 = .ok (.iload_n 2, 1) := by decide +kernel
theorem dL_adlerRolled_6 : decode cL_adlerRolled 6 = .ok (.iload_n 3, 1) := by decide +kernel
theorem dL_adlerRolled_7 : decode cL_adlerRolled 7 = .ok (.iload 4, 2) := by decide +kernel
theorem dL_adlerRolled_9 : decode cL_adlerRolled 9 = .ok (.invokevirtual 87, 3) := by decide +kernel
theorem dL_adlerRolled_12 : decode cL_adlerRolled 12 = .ok (.i2l, 1) := by decide +kernel
theorem dL_adlerRolled_13 : decode cL_adlerRolled 13 = .ok (.lastore, 1) := by decide +kernel
theorem dL_adlerRolled_14 : decode cL_adlerRolled 14 = .ok (.goto 7, 3) := by decide +kernel
theorem dL_adlerRolled_17 : decode cL_adlerRolled 17 = .ok (.astore 6, 2) := by decide +kernel
theorem dL_adlerRolled_19 : decode cL_adlerRolled 19 = .ok (.iconst 1, 1) := by decide +kernel
theorem dL_adlerRolled_20 : decode cL_adlerRolled 20 = .ok (.ireturn, 1) := by decide +kernel
theorem dL_adlerRolled_21 : decode cL_adlerRolled 21 = .ok (.iconst 0, 1) := by decide +kernel
theorem dL_adlerRolled_22 : decode cL_adlerRolled 22 = .ok (.ireturn, 1) := by decide +kernel
set_option maxRecDepth 20000 in
theorem ggL_law_X1_init : GoodIn wsL_law wsX1_init := goodIn_r _ [10, 11, 12, 13, 14, 15, 16, 17, 18, 19, 20, 519, 520, 521, 522] (by decide +kernel) (by decide +kernel)
set_option maxRecDepth 20000 in
theorem gL_law_X1_init : GoodIn wsL_law (wsX1_init) := ggL_law_X1_init
set_option maxRecDepth 20000 in
theorem ggL_law_X2_init : GoodIn wsL_law wsX2_init := goodIn_r _ [23, 24, 12, 13, 18, 25, 26, 27, 28, 29, 30, 31, 32, 33, 523, 524, 525, 526, 527, 528, 529, 530, 531, 532] (by decide +kernel) (by decide +kernel)
set_option maxRecDepth 20000 in
theorem gL_law_X2_init : GoodIn wsL_law (wsX2_init) := ggL_law_X2_init
set_option maxRecDepth 20000 in
theorem ggL_law_L_define : GoodIn wsL_law wsL_define := goodIn_ca (goodIn_ca (goodIn_r _ [37, 38, 39, 40, 41, 42, 2, 43, 44, 45, 46, 47, 16, 15, 14, 48, 49, 50, 51, 52, 53, 54, 55, 56, 12, 13, 57, 58, 59, 60, 61, 62, 63, 64, 519, 520, 521, 522, 533, 534, 535, 536, 537, 538, 539, 540] (by decide +kernel) (by decide +kernel)) (goodIn_sub (fun _ h => List.mem_append_left _ (List.mem_append_left _ (List.mem_append_right _ h))) (by decide +kernel))) (goodIn_sub (fun _ h => List.mem_append_left _ (List.mem_append_right _ h)) (by decide +kernel))
set_option maxRecDepth 20000 in
theorem gL_law_L_define : GoodIn wsL_law (va_wsS RL 94 yL_define wsL_define) := goodIn_app (goodIn_of _ (by decide +kernel)) ggL_law_L_define
set_option maxRecDepth 20000 in
theorem ggL_law_X2_define : GoodIn wsL_law wsX2_define := goodIn_r _ [68, 69, 25, 26, 27, 28, 30, 31, 70, 71, 5, 72, 73, 74, 75, 76, 77, 78, 79, 80, 523, 524, 525, 526, 527, 528, 529, 530, 531, 532] (by decide +kernel) (by decide +kernel)
set_option maxRecDepth 20000 in
theorem gL_law_X2_define : GoodIn wsL_law (wsV RL 99 RX2 yX2_define wsX2_define) := goodIn_app (goodIn_of _ (by decide +kernel)) ggL_law_X2_define
set_option maxRecDepth 20000 in
theorem ggL_law_X2_thrown : GoodIn wsL_law wsX2_thrown := goodIn_r _ [84, 80, 523, 524, 525, 526, 527, 528, 529, 530, 531, 532] (by decide +kernel) (by decide +kernel)
set_option maxRecDepth 20000 in
theorem gL_law_X2_thrown : GoodIn wsL_law (wsV RL 100 RX2 yX2_thrown wsX2_thrown) := goodIn_app (goodIn_of _ (by decide +kernel)) ggL_law_X2_thrown
set_option maxRecDepth 20000 in
theorem ggL_law_X1_models : GoodIn wsL_law wsX1_models := goodIn_r _ [88, 16, 519, 520, 521, 522] (by decide +kernel) (by decide +kernel)
set_option maxRecDepth 20000 in
theorem gL_law_X1_models : GoodIn wsL_law (wsV RL 104 RX1 yX1_models wsX1_models) := goodIn_app (goodIn_of _ (by decide +kernel)) ggL_law_X1_models
set_option maxRecDepth 20000 in
theorem ggL_law_X2_models : GoodIn wsL_law wsX2_models := goodIn_r _ [92, 80, 69, 523, 524, 525, 526, 527, 528, 529, 530, 531, 532] (by decide +kernel) (by decide +kernel)
set_option maxRecDepth 20000 in
theorem gL_law_X2_models : GoodIn wsL_law (wsV RL 107 RX2 yX2_models wsX2_models) := goodIn_app (goodIn_of _ (by decide +kernel)) ggL_law_X2_models
set_option maxRecDepth 20000 in
theorem ggL_law_L_check : GoodIn wsL_law wsL_check := goodIn_ca (goodIn_r _ [95, 96, 97, 98, 99, 2, 100, 101, 102, 103, 104, 105, 106, 107, 15, 108, 109, 110, 49, 111, 112, 113, 114, 115, 60, 116, 117, 118, 119, 120, 121, 57, 122, 123, 124, 125, 63, 64, 58, 126, 127, 128, 129, 62, 130, 131, 132, 133, 61, 533, 534, 535, 536, 537, 538, 539, 540, 519, 520, 521, 522] (by decide +kernel) (by decide +kernel)) (goodIn_sub (fun _ h => List.mem_append_right _ h) (by decide +kernel))
set_option maxRecDepth 20000 in
theorem gL_law_L_check : GoodIn wsL_law (va_wsS RL 108 yL_check wsL_check) := goodIn_app (goodIn_of _ (by decide +kernel)) ggL_law_L_check
set_option maxRecDepth 20000 in
theorem ggL_law_X2_check : GoodIn wsL_law wsX2_check := goodIn_r _ [137, 27, 138, 139, 140, 5, 141, 69, 70, 71, 72, 142, 143, 144, 145, 80, 146, 147, 148, 149, 30, 25, 150, 151, 152, 153, 26, 154, 155, 156, 157, 31, 28, 158, 159, 160, 523, 524, 525, 526, 527, 528, 529, 530, 531, 532] (by decide +kernel) (by decide +kernel)
set_option maxRecDepth 20000 in
theorem gL_law_X2_check : GoodIn wsL_law (wsV RL 111 RX2 yX2_check wsX2_check) := goodIn_app (goodIn_of _ (by decide +kernel)) ggL_law_X2_check
set_option maxRecDepth 20000 in
theorem ggL_law_L_multiply : GoodIn wsL_law wsL_multiply := goodIn_ca (goodIn_ca (goodIn_r _ [163, 96, 38, 164, 165, 166, 2, 167, 168, 102, 103, 104, 105, 106, 107, 15, 50, 51, 52, 44, 45, 169, 170, 171, 49, 172, 57, 122, 123, 124, 125, 63, 64, 58, 533, 534, 535, 536, 537, 538, 539, 540, 519, 520, 521, 522] (by decide +kernel) (by decide +kernel)) (goodIn_sub (fun _ h => List.mem_append_right _ h) (by decide +kernel))) (goodIn_sub (fun _ h => List.mem_append_left _ (List.mem_append_left _ (List.mem_append_right _ h))) (by decide +kernel))
set_option maxRecDepth 20000 in
theorem gL_law_L_multiply : GoodIn wsL_law (va_wsS RL 112 yL_multiply wsL_multiply) := goodIn_app (goodIn_of _ (by decide +kernel)) ggL_law_L_multiply
set_option maxRecDepth 20000 in
theorem ggL_law_X2_multiply : GoodIn wsL_law wsX2_multiply := goodIn_r _ [176, 25, 138, 139, 140, 5, 141, 69, 70, 71, 72, 177, 178, 179, 180, 73, 74, 75, 76, 77, 78, 79, 80, 181, 182, 183, 184, 150, 151, 152, 153, 26, 523, 524, 525, 526, 527, 528, 529, 530, 531, 532] (by decide +kernel) (by decide +kernel)
set_option maxRecDepth 20000 in
theorem gL_law_X2_multiply : GoodIn wsL_law (wsV RL 115 RX2 yX2_multiply wsX2_multiply) := goodIn_app (goodIn_of _ (by decide +kernel)) ggL_law_X2_multiply
set_option maxRecDepth 20000 in
theorem ggL_law_L_power : GoodIn wsL_law wsL_power := goodIn_ca (goodIn_ca (goodIn_r _ [187, 96, 38, 188, 189, 190, 2, 191, 44, 45, 102, 103, 104, 105, 106, 107, 15, 192, 193, 194, 49, 195, 196, 170, 171, 172, 57, 122, 123, 124, 125, 63, 64, 58, 519, 520, 521, 522, 533, 534, 535, 536, 537, 538, 539, 540] (by decide +kernel) (by decide +kernel)) (goodIn_sub (fun _ h => List.mem_append_left _ (List.mem_append_left _ (List.mem_append_right _ h))) (by decide +kernel))) (goodIn_sub (fun _ h => List.mem_append_right _ h) (by decide +kernel))
set_option maxRecDepth 20000 in
theorem gL_law_L_power : GoodIn wsL_law (va_wsS RL 118 yL_power wsL_power) := goodIn_app (goodIn_of _ (by decide +kernel)) ggL_law_L_power
set_option maxRecDepth 20000 in
theorem ggL_law_X2_power : GoodIn wsL_law wsX2_power := goodIn_r _ [200, 138, 139, 140, 5, 141, 69, 70, 71, 72, 76, 77, 78, 79, 80, 201, 202, 203, 204, 25, 181, 182, 183, 184, 150, 151, 152, 153, 26, 523, 524, 525, 526, 527, 528, 529, 530, 531, 532] (by decide +kernel) (by decide +kernel)
set_option maxRecDepth 20000 in
theorem gL_law_X2_power : GoodIn wsL_law (wsV RL 121 RX2 yX2_power wsX2_power) := goodIn_app (goodIn_of _ (by decide +kernel)) ggL_law_X2_power
set_option maxRecDepth 20000 in
theorem ggL_law_L_period : GoodIn wsL_law wsL_period := goodIn_ca (goodIn_ca (goodIn_r _ [207, 96, 38, 208, 209, 210, 2, 211, 44, 45, 212, 102, 103, 104, 105, 106, 107, 15, 213, 123, 124, 49, 125, 63, 64, 58, 519, 520, 521, 522, 533, 534, 535, 536, 537, 538, 539, 540] (by decide +kernel) (by decide +kernel)) (goodIn_sub (fun _ h => List.mem_append_left _ (List.mem_append_left _ (List.mem_append_right _ h))) (by decide +kernel))) (goodIn_sub (fun _ h => List.mem_append_right _ h) (by decide +kernel))
set_option maxRecDepth 20000 in
theorem gL_law_L_period : GoodIn wsL_law (va_wsS RL 122 yL_period wsL_period) := goodIn_app (goodIn_of _ (by decide +kernel)) ggL_law_L_period
set_option maxRecDepth 20000 in
theorem ggL_law_X2_period : GoodIn wsL_law wsX2_period := goodIn_r _ [217, 218, 138, 139, 140, 5, 141, 69, 70, 71, 72, 76, 77, 78, 79, 80, 150, 151, 152, 153, 25, 26, 523, 524, 525, 526, 527, 528, 529, 530, 531, 532] (by decide +kernel) (by decide +kernel)
set_option maxRecDepth 20000 in
theorem gL_law_X2_period : GoodIn wsL_law (wsV RL 125 RX2 yX2_period wsX2_period) := goodIn_app (goodIn_of _ (by decide +kernel)) ggL_law_X2_period
set_option maxRecDepth 20000 in
theorem ggL_law_L_append : GoodIn wsL_law wsL_append := goodIn_ca (goodIn_ca (goodIn_ca (goodIn_r _ [221, 96, 38, 39, 222, 223, 224, 2, 225, 19, 20, 226, 227, 228, 106, 107, 229, 230, 231, 44, 45, 232, 233, 234, 235, 46, 47, 519, 520, 521, 522] (by decide +kernel) (by decide +kernel)) (goodIn_sub (fun _ h => List.mem_append_right _ h) (by decide +kernel))) (goodIn_sub (fun _ h => List.mem_append_left _ (List.mem_append_left _ (List.mem_append_right _ h))) (by decide +kernel))) (goodIn_sub (fun _ h => List.mem_append_left _ (List.mem_append_right _ h)) (by decide +kernel))
set_option maxRecDepth 20000 in
theorem gL_law_L_append : GoodIn wsL_law (va_wsS RL 126 yL_append wsL_append) := goodIn_app (goodIn_of _ (by decide +kernel)) ggL_law_L_append
set_option maxRecDepth 20000 in
theorem ggL_law_X2_append : GoodIn wsL_law wsX2_append := goodIn_r _ [239, 33, 80, 240, 241, 5, 242, 70, 71, 72, 243, 244, 245, 246, 247, 248, 249, 32, 523, 524, 525, 526, 527, 528, 529, 530, 531, 532] (by decide +kernel) (by decide +kernel)
set_option maxRecDepth 20000 in
theorem gL_law_X2_append : GoodIn wsL_law (wsV RL 128 RX2 yX2_append wsX2_append) := goodIn_app (goodIn_of _ (by decide +kernel)) ggL_law_X2_append
set_option maxRecDepth 20000 in
theorem ggL_law_L_appendSeries : GoodIn wsL_law wsL_appendSeries := goodIn_ca (goodIn_ca (goodIn_ca (goodIn_r _ [252, 96, 38, 39, 253, 254, 255, 2, 256, 44, 45, 20, 19, 226, 227, 228, 106, 107, 229, 230, 231, 232, 233, 234, 235, 46, 47, 519, 520, 521, 522] (by decide +kernel) (by decide +kernel)) (goodIn_sub (fun _ h => List.mem_append_left _ (List.mem_append_left _ (List.mem_append_right _ h))) (by decide +kernel))) (goodIn_sub (fun _ h => List.mem_append_right _ h) (by decide +kernel))) (goodIn_sub (fun _ h => List.mem_append_left _ (List.mem_append_right _ h)) (by decide +kernel))
set_option maxRecDepth 20000 in
theorem gL_law_L_appendSeries : GoodIn wsL_law (va_wsS RL 129 yL_appendSeries wsL_appendSeries) := goodIn_app (goodIn_of _ (by decide +kernel)) ggL_law_L_appendSeries
set_option maxRecDepth 20000 in
theorem ggL_law_X2_appendSeries : GoodIn wsL_law wsX2_appendSeries := goodIn_r _ [260, 33, 80, 243, 244, 5, 245, 70, 71, 72, 240, 241, 242, 246, 247, 248, 249, 32, 523, 524, 525, 526, 527, 528, 529, 530, 531, 532] (by decide +kernel) (by decide +kernel)
set_option maxRecDepth 20000 in
theorem gL_law_X2_appendSeries : GoodIn wsL_law (wsV RL 132 RX2 yX2_appendSeries wsX2_appendSeries) := goodIn_app (goodIn_of _ (by decide +kernel)) ggL_law_X2_appendSeries
set_option maxRecDepth 20000 in
theorem ggL_law_L_appendRow : GoodIn wsL_law wsL_appendRow := goodIn_ca (goodIn_ca (goodIn_r _ [263, 96, 39, 264, 265, 266, 2, 267, 20, 19, 226, 227, 228, 106, 107, 232, 233, 234, 235, 46, 47, 519, 520, 521, 522] (by decide +kernel) (by decide +kernel)) (goodIn_sub (fun _ h => List.mem_append_right _ h) (by decide +kernel))) (goodIn_sub (fun _ h => List.mem_append_left _ (List.mem_append_right _ h)) (by decide +kernel))
set_option maxRecDepth 20000 in
theorem gL_law_L_appendRow : GoodIn wsL_law (va_wsS RL 133 yL_appendRow wsL_appendRow) := goodIn_app (goodIn_of _ (by decide +kernel)) ggL_law_L_appendRow
set_option maxRecDepth 20000 in
theorem ggL_law_X2_appendRow : GoodIn wsL_law wsX2_appendRow := goodIn_r _ [271, 33, 32, 240, 241, 5, 242, 70, 71, 72, 76, 77, 78, 79, 80, 246, 247, 248, 249, 523, 524, 525, 526, 527, 528, 529, 530, 531, 532] (by decide +kernel) (by decide +kernel)
set_option maxRecDepth 20000 in
theorem gL_law_X2_appendRow : GoodIn wsL_law (wsV RL 135 RX2 yX2_appendRow wsX2_appendRow) := goodIn_app (goodIn_of _ (by decide +kernel)) ggL_law_X2_appendRow
set_option maxRecDepth 20000 in
theorem ggL_law_L_setByte : GoodIn wsL_law wsL_setByte := goodIn_ca (goodIn_ca (goodIn_r _ [274, 96, 38, 275, 276, 277, 2, 278, 19, 226, 227, 228, 106, 107, 279, 280, 281, 282, 20, 229, 230, 231, 44, 45, 519, 520, 521, 522] (by decide +kernel) (by decide +kernel)) (goodIn_sub (fun _ h => List.mem_append_right _ h) (by decide +kernel))) (goodIn_sub (fun _ h => List.mem_append_left _ (List.mem_append_left _ (List.mem_append_right _ h))) (by decide +kernel))
set_option maxRecDepth 20000 in
theorem gL_law_L_setByte : GoodIn wsL_law (va_wsS RL 136 yL_setByte wsL_setByte) := goodIn_app (goodIn_of _ (by decide +kernel)) ggL_law_L_setByte
set_option maxRecDepth 20000 in
theorem ggL_law_X2_setByte : GoodIn wsL_law wsX2_setByte := goodIn_r _ [286, 32, 287, 288, 289, 5, 290, 33, 240, 241, 242, 70, 71, 72, 243, 244, 245, 76, 77, 78, 79, 80, 523, 524, 525, 526, 527, 528, 529, 530, 531, 532] (by decide +kernel) (by decide +kernel)
set_option maxRecDepth 20000 in
theorem gL_law_X2_setByte : GoodIn wsL_law (wsV RL 138 RX2 yX2_setByte wsX2_setByte) := goodIn_app (goodIn_of _ (by decide +kernel)) ggL_law_X2_setByte
set_option maxRecDepth 20000 in
theorem ggL_law_L_truncate : GoodIn wsL_law wsL_truncate := goodIn_ca (goodIn_ca (goodIn_r _ [293, 96, 38, 294, 295, 296, 2, 297, 44, 45, 20, 226, 227, 228, 106, 107, 519, 520, 521, 522] (by decide +kernel) (by decide +kernel)) (goodIn_sub (fun _ h => List.mem_append_left _ (List.mem_append_left _ (List.mem_append_right _ h))) (by decide +kernel))) (goodIn_sub (fun _ h => List.mem_append_right _ h) (by decide +kernel))
set_option maxRecDepth 20000 in
theorem gL_law_L_truncate : GoodIn wsL_law (va_wsS RL 139 yL_truncate wsL_truncate) := goodIn_app (goodIn_of _ (by decide +kernel)) ggL_law_L_truncate
set_option maxRecDepth 20000 in
theorem ggL_law_X2_truncate : GoodIn wsL_law wsX2_truncate := goodIn_r _ [301, 33, 240, 241, 5, 242, 70, 71, 72, 76, 77, 78, 79, 80, 523, 524, 525, 526, 527, 528, 529, 530, 531, 532] (by decide +kernel) (by decide +kernel)
set_option maxRecDepth 20000 in
theorem gL_law_X2_truncate : GoodIn wsL_law (wsV RL 141 RX2 yX2_truncate wsX2_truncate) := goodIn_app (goodIn_of _ (by decide +kernel)) ggL_law_X2_truncate
set_option maxRecDepth 20000 in
theorem ggL_law_L_length : GoodIn wsL_law wsL_length := goodIn_ca (goodIn_r _ [304, 96, 305, 306, 307, 2, 308, 20, 226, 227, 228, 106, 107, 519, 520, 521, 522] (by decide +kernel) (by decide +kernel)) (goodIn_sub (fun _ h => List.mem_append_right _ h) (by decide +kernel))
set_option maxRecDepth 20000 in
theorem gL_law_L_length : GoodIn wsL_law (va_wsS RL 142 yL_length wsL_length) := goodIn_app (goodIn_of _ (by decide +kernel)) ggL_law_L_length
set_option maxRecDepth 20000 in
theorem ggL_law_X2_length : GoodIn wsL_law wsX2_length := goodIn_r _ [312, 33, 240, 241, 5, 242, 70, 71, 72, 142, 143, 144, 145, 80, 523, 524, 525, 526, 527, 528, 529, 530, 531, 532] (by decide +kernel) (by decide +kernel)
set_option maxRecDepth 20000 in
theorem gL_law_X2_length : GoodIn wsL_law (wsV RL 144 RX2 yX2_length wsX2_length) := goodIn_app (goodIn_of _ (by decide +kernel)) ggL_law_X2_length
set_option maxRecDepth 20000 in
theorem ggL_law_L_byteAt : GoodIn wsL_law wsL_byteAt := goodIn_ca (goodIn_r _ [315, 96, 316, 317, 318, 2, 319, 19, 226, 227, 228, 106, 107, 279, 280, 281, 282, 20, 519, 520, 521, 522] (by decide +kernel) (by decide +kernel)) (goodIn_sub (fun _ h => List.mem_append_right _ h) (by decide +kernel))
set_option maxRecDepth 20000 in
theorem gL_law_L_byteAt : GoodIn wsL_law (va_wsS RL 145 yL_byteAt wsL_byteAt) := goodIn_app (goodIn_of _ (by decide +kernel)) ggL_law_L_byteAt
set_option maxRecDepth 20000 in
theorem ggL_law_X2_byteAt : GoodIn wsL_law wsX2_byteAt := goodIn_r _ [323, 32, 287, 288, 289, 5, 290, 33, 240, 241, 242, 70, 71, 72, 142, 143, 144, 145, 80, 523, 524, 525, 526, 527, 528, 529, 530, 531, 532] (by decide +kernel) (by decide +kernel)
set_option maxRecDepth 20000 in
theorem gL_law_X2_byteAt : GoodIn wsL_law (wsV RL 147 RX2 yX2_byteAt wsX2_byteAt) := goodIn_app (goodIn_of _ (by decide +kernel)) ggL_law_X2_byteAt
set_option maxRecDepth 20000 in
theorem ggL_law_L_sum : GoodIn wsL_law wsL_sum := goodIn_ca (goodIn_r _ [326, 96, 327, 328, 329, 2, 330, 20, 102, 103, 104, 105, 106, 107, 15, 226, 227, 228, 331, 332, 333, 334, 101, 19, 108, 109, 110, 49, 111, 112, 113, 114, 115, 60, 116, 117, 118, 119, 120, 121, 57, 122, 123, 124, 125, 63, 64, 58, 126, 127, 128, 129, 62, 130, 131, 132, 133, 61, 519, 520, 521, 522, 533, 534, 535, 536, 537, 538, 539, 540] (by decide +kernel) (by decide +kernel)) (goodIn_sub (fun _ h => List.mem_append_right _ h) (by decide +kernel))
set_option maxRecDepth 20000 in
theorem gL_law_L_sum : GoodIn wsL_law (va_wsS RL 148 yL_sum wsL_sum) := goodIn_app (goodIn_of _ (by decide +kernel)) ggL_law_L_sum
set_option maxRecDepth 20000 in
theorem ggL_law_X2_sum : GoodIn wsL_law wsX2_sum := goodIn_r _ [338, 33, 138, 139, 140, 5, 141, 69, 70, 71, 72, 240, 241, 242, 142, 143, 144, 145, 80, 339, 340, 341, 342, 27, 32, 146, 147, 148, 149, 30, 25, 150, 151, 152, 153, 26, 154, 155, 156, 157, 31, 28, 158, 159, 160, 523, 524, 525, 526, 527, 528, 529, 530, 531, 532] (by decide +kernel) (by decide +kernel)
set_option maxRecDepth 20000 in
theorem gL_law_X2_sum : GoodIn wsL_law (wsV RL 150 RX2 yX2_sum wsX2_sum) := goodIn_app (goodIn_of _ (by decide +kernel)) ggL_law_X2_sum
set_option maxRecDepth 20000 in
theorem ggL_law_L_sumOfPart : GoodIn wsL_law wsL_sumOfPart := goodIn_ca (goodIn_r _ [345, 96, 346, 347, 348, 2, 349, 106, 107, 20, 102, 103, 104, 105, 15, 226, 227, 228, 331, 332, 333, 334, 101, 19, 108, 109, 110, 49, 111, 112, 113, 114, 115, 60, 116, 117, 118, 119, 120, 121, 57, 122, 123, 124, 125, 63, 64, 58, 126, 127, 128, 129, 62, 130, 131, 132, 133, 61, 519, 520, 521, 522, 533, 534, 535, 536, 537, 538, 539, 540] (by decide +kernel) (by decide +kernel)) (goodIn_sub (fun _ h => List.mem_append_right _ h) (by decide +kernel))
set_option maxRecDepth 20000 in
theorem gL_law_L_sumOfPart : GoodIn wsL_law (va_wsS RL 151 yL_sumOfPart wsL_sumOfPart) := goodIn_app (goodIn_of _ (by decide +kernel)) ggL_law_L_sumOfPart
set_option maxRecDepth 20000 in
theorem ggL_law_X2_sumOfPart : GoodIn wsL_law wsX2_sumOfPart := goodIn_r _ [353, 33, 138, 139, 140, 5, 141, 69, 70, 71, 72, 240, 241, 242, 142, 143, 144, 145, 80, 339, 340, 341, 342, 27, 32, 146, 147, 148, 149, 30, 25, 150, 151, 152, 153, 26, 154, 155, 156, 157, 31, 28, 158, 159, 160, 523, 524, 525, 526, 527, 528, 529, 530, 531, 532] (by decide +kernel) (by decide +kernel)
set_option maxRecDepth 20000 in
theorem gL_law_X2_sumOfPart : GoodIn wsL_law (wsV RL 153 RX2 yX2_sumOfPart wsX2_sumOfPart) := goodIn_app (goodIn_of _ (by decide +kernel)) ggL_law_X2_sumOfPart
set_option maxRecDepth 20000 in
theorem ggL_law_L_remainder : GoodIn wsL_law wsL_remainder := goodIn_ca (goodIn_r _ [356, 96, 357, 358, 359, 2, 360, 20, 19, 102, 103, 104, 105, 106, 107, 15, 226, 227, 228, 361, 362, 363, 49, 364, 122, 123, 124, 125, 63, 64, 58, 519, 520, 521, 522, 533, 534, 535, 536, 537, 538, 539, 540] (by decide +kernel) (by decide +kernel)) (goodIn_sub (fun _ h => List.mem_append_right _ h) (by decide +kernel))
set_option maxRecDepth 20000 in
theorem gL_law_L_remainder : GoodIn wsL_law (va_wsS RL 154 yL_remainder wsL_remainder) := goodIn_app (goodIn_of _ (by decide +kernel)) ggL_law_L_remainder
set_option maxRecDepth 20000 in
theorem ggL_law_X2_remainder : GoodIn wsL_law wsX2_remainder := goodIn_r _ [368, 33, 32, 138, 139, 140, 5, 141, 69, 70, 71, 72, 240, 241, 242, 142, 143, 144, 145, 80, 150, 151, 152, 153, 25, 26, 523, 524, 525, 526, 527, 528, 529, 530, 531, 532] (by decide +kernel) (by decide +kernel)
set_option maxRecDepth 20000 in
theorem gL_law_X2_remainder : GoodIn wsL_law (wsV RL 156 RX2 yX2_remainder wsX2_remainder) := goodIn_app (goodIn_of _ (by decide +kernel)) ggL_law_X2_remainder
set_option maxRecDepth 20000 in
theorem ggL_law_L_joined : GoodIn wsL_law wsL_joined := goodIn_ca (goodIn_ca (goodIn_r _ [371, 96, 38, 372, 373, 374, 2, 375, 168, 101, 376, 102, 103, 104, 105, 106, 107, 15, 50, 51, 52, 44, 45, 377, 378, 379, 380, 381, 382, 49, 383, 62, 130, 131, 132, 133, 61, 57, 116, 117, 192, 193, 194, 195, 196, 170, 171, 172, 122, 123, 124, 125, 63, 64, 58, 169, 126, 127, 128, 129, 533, 534, 535, 536, 537, 538, 539, 540, 519, 520, 521, 522] (by decide +kernel) (by decide +kernel)) (goodIn_sub (fun _ h => List.mem_append_right _ h) (by decide +kernel))) (goodIn_sub (fun _ h => List.mem_append_left _ (List.mem_append_left _ (List.mem_append_right _ h))) (by decide +kernel))
set_option maxRecDepth 20000 in
theorem gL_law_L_joined : GoodIn wsL_law (va_wsS RL 157 yL_joined wsL_joined) := goodIn_app (goodIn_of _ (by decide +kernel)) ggL_law_L_joined
set_option maxRecDepth 20000 in
theorem ggL_law_X2_joined : GoodIn wsL_law wsX2_joined := goodIn_r _ [387, 27, 388, 25, 138, 139, 140, 5, 141, 69, 70, 71, 72, 177, 178, 179, 180, 73, 74, 75, 76, 77, 78, 79, 80, 389, 390, 391, 392, 28, 31, 158, 159, 160, 201, 202, 203, 204, 181, 182, 183, 184, 150, 151, 152, 153, 26, 154, 155, 156, 157, 523, 524, 525, 526, 527, 528, 529, 530, 531, 532] (by decide +kernel) (by decide +kernel)
set_option maxRecDepth 20000 in
theorem gL_law_X2_joined : GoodIn wsL_law (wsV RL 159 RX2 yX2_joined wsX2_joined) := goodIn_app (goodIn_of _ (by decide +kernel)) ggL_law_X2_joined
set_option maxRecDepth 20000 in
theorem ggL_law_L_patched : GoodIn wsL_law wsL_patched := goodIn_ca (goodIn_ca (goodIn_r _ [395, 96, 38, 396, 397, 398, 2, 399, 168, 376, 102, 103, 104, 105, 106, 107, 15, 50, 51, 52, 44, 45, 377, 378, 379, 229, 230, 231, 400, 113, 114, 49, 115, 60, 116, 117, 361, 362, 363, 364, 122, 123, 124, 125, 63, 64, 58, 192, 193, 194, 195, 196, 170, 171, 172, 57, 380, 381, 382, 383, 62, 130, 131, 132, 133, 61, 169, 126, 127, 128, 129, 533, 534, 535, 536, 537, 538, 539, 540, 519, 520, 521, 522] (by decide +kernel) (by decide +kernel)) (goodIn_sub (fun _ h => List.mem_append_right _ h) (by decide +kernel))) (goodIn_sub (fun _ h => List.mem_append_left _ (List.mem_append_left _ (List.mem_append_right _ h))) (by decide +kernel))
set_option maxRecDepth 20000 in
theorem gL_law_L_patched : GoodIn wsL_law (va_wsS RL 160 yL_patched wsL_patched) := goodIn_app (goodIn_of _ (by decide +kernel)) ggL_law_L_patched
set_option maxRecDepth 20000 in
theorem ggL_law_X2_patched : GoodIn wsL_law wsX2_patched := goodIn_r _ [404, 30, 388, 25, 138, 139, 140, 5, 141, 69, 70, 71, 72, 177, 178, 179, 180, 73, 74, 75, 243, 244, 245, 76, 77, 78, 79, 80, 158, 159, 160, 201, 202, 203, 204, 181, 182, 183, 184, 150, 151, 152, 153, 26, 389, 390, 391, 392, 28, 31, 154, 155, 156, 157, 523, 524, 525, 526, 527, 528, 529, 530, 531, 532] (by decide +kernel) (by decide +kernel)
set_option maxRecDepth 20000 in
theorem gL_law_X2_patched : GoodIn wsL_law (wsV RL 162 RX2 yX2_patched wsX2_patched) := goodIn_app (goodIn_of _ (by decide +kernel)) ggL_law_X2_patched
set_option maxRecDepth 20000 in
theorem ggL_law_L_wrongBit : GoodIn wsL_law wsL_wrongBit := goodIn_ca (goodIn_ca (goodIn_r _ [407, 96, 38, 408, 409, 410, 2, 411, 44, 45, 168, 412, 102, 103, 104, 105, 106, 107, 15, 50, 51, 52, 413, 131, 132, 49, 133, 61, 57, 116, 117, 213, 123, 124, 125, 63, 64, 58, 533, 534, 535, 536, 537, 538, 539, 540, 519, 520, 521, 522] (by decide +kernel) (by decide +kernel)) (goodIn_sub (fun _ h => List.mem_append_left _ (List.mem_append_left _ (List.mem_append_right _ h))) (by decide +kernel))) (goodIn_sub (fun _ h => List.mem_append_right _ h) (by decide +kernel))
set_option maxRecDepth 20000 in
theorem gL_law_L_wrongBit : GoodIn wsL_law (va_wsS RL 163 yL_wrongBit wsL_wrongBit) := goodIn_app (goodIn_of _ (by decide +kernel)) ggL_law_L_wrongBit
set_option maxRecDepth 20000 in
theorem ggL_law_X2_wrongBit : GoodIn wsL_law wsX2_wrongBit := goodIn_r _ [417, 31, 25, 26, 138, 139, 140, 5, 141, 69, 70, 71, 72, 177, 178, 179, 180, 73, 74, 75, 76, 77, 78, 79, 80, 158, 159, 160, 150, 151, 152, 153, 523, 524, 525, 526, 527, 528, 529, 530, 531, 532] (by decide +kernel) (by decide +kernel)
set_option maxRecDepth 20000 in
theorem gL_law_X2_wrongBit : GoodIn wsL_law (wsV RL 165 RX2 yX2_wrongBit wsX2_wrongBit) := goodIn_app (goodIn_of _ (by decide +kernel)) ggL_law_X2_wrongBit
set_option maxRecDepth 20000 in
theorem ggL_law_L_fletcher : GoodIn wsL_law wsL_fletcher := goodIn_ca (goodIn_r _ [420, 96, 421, 422, 423, 2, 424, 20, 19, 226, 227, 228, 106, 107, 519, 520, 521, 522] (by decide +kernel) (by decide +kernel)) (goodIn_sub (fun _ h => List.mem_append_right _ h) (by decide +kernel))
set_option maxRecDepth 20000 in
theorem gL_law_L_fletcher : GoodIn wsL_law (va_wsS RL 166 yL_fletcher wsL_fletcher) := goodIn_app (goodIn_of _ (by decide +kernel)) ggL_law_L_fletcher
set_option maxRecDepth 20000 in
theorem ggL_law_X2_fletcher : GoodIn wsL_law wsX2_fletcher := goodIn_r _ [428, 33, 32, 240, 241, 5, 242, 70, 71, 72, 142, 143, 144, 145, 80, 523, 524, 525, 526, 527, 528, 529, 530, 531, 532] (by decide +kernel) (by decide +kernel)
set_option maxRecDepth 20000 in
theorem gL_law_X2_fletcher : GoodIn wsL_law (wsV RL 168 RX2 yX2_fletcher wsX2_fletcher) := goodIn_app (goodIn_of _ (by decide +kernel)) ggL_law_X2_fletcher
set_option maxRecDepth 20000 in
theorem ggL_law_L_fletcherJoined : GoodIn wsL_law wsL_fletcherJoined := goodIn_ca (goodIn_r _ [431, 38, 432, 433, 434, 2, 435, 436, 437, 438, 439, 44, 45, 377, 378, 379] (by decide +kernel) (by decide +kernel)) (goodIn_sub (fun _ h => List.mem_append_left _ (List.mem_append_left _ (List.mem_append_right _ h))) (by decide +kernel))
set_option maxRecDepth 20000 in
theorem gL_law_L_fletcherJoined : GoodIn wsL_law (va_wsS RL 169 yL_fletcherJoined wsL_fletcherJoined) := goodIn_app (goodIn_of _ (by decide +kernel)) ggL_law_L_fletcherJoined
set_option maxRecDepth 20000 in
theorem ggL_law_X2_fletcherJoined : GoodIn wsL_law wsX2_fletcherJoined := goodIn_r _ [443, 444, 445, 446, 5, 447, 142, 143, 144, 145, 80, 523, 524, 525, 526, 527, 528, 529, 530, 531, 532] (by decide +kernel) (by decide +kernel)
set_option maxRecDepth 20000 in
theorem gL_law_X2_fletcherJoined : GoodIn wsL_law (wsV RL 171 RX2 yX2_fletcherJoined wsX2_fletcherJoined) := goodIn_app (goodIn_of _ (by decide +kernel)) ggL_law_X2_fletcherJoined
set_option maxRecDepth 20000 in
theorem ggL_law_L_adler : GoodIn wsL_law wsL_adler := goodIn_ca (goodIn_r _ [450, 96, 451, 452, 453, 2, 454, 20, 19, 455, 226, 227, 228, 106, 107, 456, 457, 458, 459, 460, 461, 462, 463, 519, 520, 521, 522] (by decide +kernel) (by decide +kernel)) (goodIn_sub (fun _ h => List.mem_append_right _ h) (by decide +kernel))
set_option maxRecDepth 20000 in
theorem gL_law_L_adler : GoodIn wsL_law (va_wsS RL 172 yL_adler wsL_adler) := goodIn_app (goodIn_of _ (by decide +kernel)) ggL_law_L_adler
set_option maxRecDepth 20000 in
theorem ggL_law_X2_adler : GoodIn wsL_law wsX2_adler := goodIn_r _ [467, 33, 32, 468, 469, 240, 241, 5, 242, 70, 71, 72, 142, 143, 144, 145, 80, 523, 524, 525, 526, 527, 528, 529, 530, 531, 532] (by decide +kernel) (by decide +kernel)
set_option maxRecDepth 20000 in
theorem gL_law_X2_adler : GoodIn wsL_law (wsV RL 174 RX2 yX2_adler wsX2_adler) := goodIn_app (goodIn_of _ (by decide +kernel)) ggL_law_X2_adler
set_option maxRecDepth 20000 in
theorem ggL_law_L_adlerJoined : GoodIn wsL_law wsL_adlerJoined := goodIn_ca (goodIn_r _ [472, 38, 473, 474, 475, 2, 476, 477, 478, 479, 44, 45, 455, 480, 481, 482, 483, 484, 485, 486, 377, 378, 379, 456, 457, 458, 459, 460, 461, 462, 463] (by decide +kernel) (by decide +kernel)) (goodIn_sub (fun _ h => List.mem_append_left _ (List.mem_append_left _ (List.mem_append_right _ h))) (by decide +kernel))
set_option maxRecDepth 20000 in
theorem gL_law_L_adlerJoined : GoodIn wsL_law (va_wsS RL 175 yL_adlerJoined wsL_adlerJoined) := goodIn_app (goodIn_of _ (by decide +kernel)) ggL_law_L_adlerJoined
set_option maxRecDepth 20000 in
theorem ggL_law_X2_adlerJoined : GoodIn wsL_law wsX2_adlerJoined := goodIn_r _ [490, 491, 492, 5, 493, 468, 494, 495, 496, 497, 498, 499, 500, 142, 143, 144, 145, 80, 501, 502, 503, 469, 504, 505, 506, 507, 523, 524, 525, 526, 527, 528, 529, 530, 531, 532] (by decide +kernel) (by decide +kernel)
set_option maxRecDepth 20000 in
theorem gL_law_X2_adlerJoined : GoodIn wsL_law (wsV RL 177 RX2 yX2_adlerJoined wsX2_adlerJoined) := goodIn_app (goodIn_of _ (by decide +kernel)) ggL_law_X2_adlerJoined
set_option maxRecDepth 20000 in
theorem ggL_law_L_adlerRolled : GoodIn wsL_law wsL_adlerRolled := goodIn_ca (goodIn_r _ [510, 38, 511, 512, 513, 2, 514, 44, 45, 477, 478, 479, 455, 480, 481, 482, 483, 484, 485, 486, 229, 230, 231, 456, 457, 458, 459, 460, 461, 462, 463] (by decide +kernel) (by decide +kernel)) (goodIn_sub (fun _ h => List.mem_append_left _ (List.mem_append_left _ (List.mem_append_right _ h))) (by decide +kernel))
set_option maxRecDepth 20000 in
theorem gL_law_L_adlerRolled : GoodIn wsL_law (va_wsS RL 178 yL_adlerRolled wsL_adlerRolled) := goodIn_app (goodIn_of _ (by decide +kernel)) ggL_law_L_adlerRolled
set_option maxRecDepth 20000 in
theorem ggL_law_X2_adlerRolled : GoodIn wsL_law wsX2_adlerRolled := goodIn_r _ [518, 491, 492, 5, 493, 468, 494, 495, 496, 497, 498, 499, 500, 243, 244, 245, 70, 71, 72, 142, 143, 144, 145, 80, 501, 502, 503, 469, 504, 505, 506, 507, 523, 524, 525, 526, 527, 528, 529, 530, 531, 532] (by decide +kernel) (by decide +kernel)
set_option maxRecDepth 20000 in
theorem gL_law_X2_adlerRolled : GoodIn wsL_law (wsV RL 180 RX2 yX2_adlerRolled wsX2_adlerRolled) := goodIn_app (goodIn_of _ (by decide +kernel)) ggL_law_X2_adlerRolled
