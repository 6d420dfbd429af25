theorem dX1_init_0 : decode cX1_init 0 = .ok (.aload_n 0, 1) := by decide +kernel
theorem dX1_init_1 : decode cX1_init 1 = .ok (.invokespecial 1, 3) := by decide +kernel
theorem dX1_init_4 : decode cX1_init 4 = .ok (.aload_n 0, 1) := by decide +kernel
theorem dX1_init_5 : decode cX1_init 5 = .ok (.bipush 6, 2) := by decide +kernel
theorem dX1_init_7 : decode cX1_init 7 = .ok (.anewarray 9, 3) := by decide +kernel
theorem dX1_init_10 : decode cX1_init 10 = .ok (.putfield 11, 3) := by decide +kernel
theorem dX1_init_13 : decode cX1_init 13 = .ok (.aload_n 0, 1) := by decide +kernel
theorem dX1_init_14 : decode cX1_init 14 = .ok (.iconst 0, 1) := by decide +kernel
theorem dX1_init_15 : decode cX1_init 15 = .ok (.putfield 15, 3) := by decide +kernel
theorem dX1_init_18 : decode cX1_init 18 = .ok (.aload_n 0, 1) := by decide +kernel
theorem dX1_init_19 : decode cX1_init 19 = .ok (.iconst 4, 1) := by decide +kernel
theorem dX1_init_20 : decode cX1_init 20 = .ok (.sipush 256, 3) := by decide +kernel
theorem dX1_init_23 : decode cX1_init 23 = .ok (.multianewarray 19 2, 4) := by decide +kernel
theorem dX1_init_27 : decode cX1_init 27 = .ok (.putfield 21, 3) := by decide +kernel
theorem dX1_init_30 : decode cX1_init 30 = .ok (.aload_n 0, 1) := by decide +kernel
theorem dX1_init_31 : decode cX1_init 31 = .ok (.iconst 4, 1) := by decide +kernel
theorem dX1_init_32 : decode cX1_init 32 = .ok (.newarray .int, 2) := by decide +kernel
theorem dX1_init_34 : decode cX1_init 34 = .ok (.putfield 24, 3) := by decide +kernel
theorem dX1_init_37 : decode cX1_init 37 = .ok (.return_, 1) := by decide +kernel
set_option maxRecDepth 20000 in
theorem ggX1_define_X1_requireNumber : GoodIn wsX1_define wsX1_requireNumber := goodIn_ca (goodIn_r _ [13, 1, 2] (by decide +kernel) (by decide +kernel)) (goodIn_sub (fun _ h => List.mem_cons_of_mem _ (List.mem_append_left _ (List.mem_append_right _ h))) (by decide +kernel))
set_option maxRecDepth 20000 in
theorem gX1_define_X1_requireNumber : GoodIn wsX1_define (va_wsS RX1 35 yX1_requireNumber wsX1_requireNumber) := goodIn_app (goodIn_of _ (by decide +kernel)) ggX1_define_X1_requireNumber
set_option maxRecDepth 20000 in
theorem ggX1_define_X0_init : GoodIn wsX1_define wsX0_init := goodIn_r _ [16, 17, 18, 19, 20, 21, 22, 23, 24, 25, 26, 27, 32, 33, 34, 35, 36, 37, 38, 39] (by decide +kernel) (by decide +kernel)
set_option maxRecDepth 20000 in
theorem gX1_define_X0_init : GoodIn wsX1_define (wsX0_init) := ggX1_define_X0_init
theorem dX1_define_0 : decode cX1_define 0 = .ok (.iload_n 1, 1) := by decide +kernel
theorem dX1_define_1 : decode cX1_define 1 = .ok (.iconst 1, 1) := by decide +kernel
theorem dX1_define_2 : decode cX1_define 2 = .ok (.if_icmp .lt 9, 3) := by decide +kernel
theorem dX1_define_5 : decode cX1_define 5 = .ok (.iload_n 1, 1) := by decide +kernel
theorem dX1_define_6 : decode cX1_define 6 = .ok (.bipush 32, 2) := by decide +kernel
theorem dX1_define_8 : decode cX1_define 8 = .ok (.if_icmp .le 13, 3) := by decide +kernel
theorem dX1_define_11 : decode cX1_define 11 = .ok (.new 28, 3) := by decide +kernel
theorem dX1_define_14 : decode cX1_define 14 = .ok (.dup, 1) := by decide +kernel
theorem dX1_define_15 : decode cX1_define 15 = .ok (.ldc 30, 2) := by decide +kernel
theorem dX1_define_17 : decode cX1_define 17 = .ok (.invokespecial 32, 3) := by decide +kernel
theorem dX1_define_20 : decode cX1_define 20 = .ok (.athrow, 1) := by decide +kernel
theorem dX1_define_21 : decode cX1_define 21 = .ok (.iload_n 1, 1) := by decide +kernel
theorem dX1_define_22 : decode cX1_define 22 = .ok (.iload_n 2, 1) := by decide +kernel
theorem dX1_define_23 : decode cX1_define 23 = .ok (.invokestatic 35, 3) := by decide +kernel
theorem dX1_define_26 : decode cX1_define 26 = .ok (.iload_n 1, 1) := by decide +kernel
theorem dX1_define_27 : decode cX1_define 27 = .ok (.iload_n 3, 1) := by decide +kernel
theorem dX1_define_28 : decode cX1_define 28 = .ok (.invokestatic 35, 3) := by decide +kernel
theorem dX1_define_31 : decode cX1_define 31 = .ok (.iload_n 1, 1) := by decide +kernel
theorem dX1_define_32 : decode cX1_define 32 = .ok (.iload 6, 2) := by decide +kernel
theorem dX1_define_34 : decode cX1_define 34 = .ok (.invokestatic 35, 3) := by decide +kernel
theorem dX1_define_37 : decode cX1_define 37 = .ok (.aload_n 0, 1) := by decide +kernel
theorem dX1_define_38 : decode cX1_define 38 = .ok (.getfield 15, 3) := by decide +kernel
theorem dX1_define_41 : decode cX1_define 41 = .ok (.aload_n 0, 1) := by decide +kernel
theorem dX1_define_42 : decode cX1_define 42 = .ok (.getfield 11, 3) := by decide +kernel
theorem dX1_define_45 : decode cX1_define 45 = .ok (.arraylength, 1) := by decide +kernel
theorem dX1_define_46 : decode cX1_define 46 = .ok (.if_icmp .lt 13, 3) := by decide +kernel
theorem dX1_define_49 : decode cX1_define 49 = .ok (.new 39, 3) := by decide +kernel
theorem dX1_define_52 : decode cX1_define 52 = .ok (.dup, 1) := by decide +kernel
theorem dX1_define_53 : decode cX1_define 53 = .ok (.ldc 41, 2) := by decide +kernel
theorem dX1_define_55 : decode cX1_define 55 = .ok (.invokespecial 43, 3) := by decide +kernel
theorem dX1_define_58 : decode cX1_define 58 = .ok (.athrow, 1) := by decide +kernel
theorem dX1_define_59 : decode cX1_define 59 = .ok (.aload_n 0, 1) := by decide +kernel
theorem dX1_define_60 : decode cX1_define 60 = .ok (.getfield 15, 3) := by decide +kernel
theorem dX1_define_63 : decode cX1_define 63 = .ok (.istore 7, 2) := by decide +kernel
theorem dX1_define_65 : decode cX1_define 65 = .ok (.aload_n 0, 1) := by decide +kernel
theorem dX1_define_66 : decode cX1_define 66 = .ok (.getfield 11, 3) := by decide +kernel
theorem dX1_define_69 : decode cX1_define 69 = .ok (.iload 7, 2) := by decide +kernel
theorem dX1_define_71 : decode cX1_define 71 = .ok (.new 9, 3) := by decide +kernel
theorem dX1_define_74 : decode cX1_define 74 = .ok (.dup, 1) := by decide +kernel
theorem dX1_define_75 : decode cX1_define 75 = .ok (.iload_n 1, 1) := by decide +kernel
theorem dX1_define_76 : decode cX1_define 76 = .ok (.iload_n 2, 1) := by decide +kernel
theorem dX1_define_77 : decode cX1_define 77 = .ok (.iload_n 3, 1) := by decide +kernel
theorem dX1_define_78 : decode cX1_define 78 = .ok (.iload 4, 2) := by decide +kernel
theorem dX1_define_80 : decode cX1_define 80 = .ok (.iload 5, 2) := by decide +kernel
theorem dX1_define_82 : decode cX1_define 82 = .ok (.iload 6, 2) := by decide +kernel
theorem dX1_define_84 : decode cX1_define 84 = .ok (.invokespecial 44, 3) := by decide +kernel
theorem dX1_define_87 : decode cX1_define 87 = .ok (.aastore, 1) := by decide +kernel
theorem dX1_define_88 : decode cX1_define 88 = .ok (.aload_n 0, 1) := by decide +kernel
theorem dX1_define_89 : decode cX1_define 89 = .ok (.iload 7, 2) := by decide +kernel
theorem dX1_define_91 : decode cX1_define 91 = .ok (.iconst 1, 1) := by decide +kernel
theorem dX1_define_92 : decode cX1_define 92 = .ok (.iadd, 1) := by decide +kernel
theorem dX1_define_93 : decode cX1_define 93 = .ok (.putfield 15, 3) := by decide +kernel
theorem dX1_define_96 : decode cX1_define 96 = .ok (.iload 7, 2) := by decide +kernel
theorem dX1_define_98 : decode cX1_define 98 = .ok (.ireturn, 1) := by decide +kernel
theorem dX1_models_0 : decode cX1_models 0 = .ok (.aload_n 0, 1) := by decide +kernel
theorem dX1_models_1 : decode cX1_models 1 = .ok (.getfield 15, 3) := by decide +kernel
theorem dX1_models_4 : decode cX1_models 4 = .ok (.ireturn, 1) := by decide +kernel
set_option maxRecDepth 20000 in
theorem ggX1_check_X1_findModel : GoodIn wsX1_check wsX1_findModel := goodIn_ca (goodIn_r _ [6, 7, 8, 9, 52, 53, 54, 55] (by decide +kernel) (by decide +kernel)) (goodIn_sub (fun _ h => List.mem_cons_of_mem _ (List.mem_append_right _ h)) (by decide +kernel))
set_option maxRecDepth 20000 in
theorem gX1_check_X1_findModel : GoodIn wsX1_check (wsV RX1 47 RX1 yX1_findModel wsX1_findModel) := goodIn_app (goodIn_of _ (by decide +kernel)) ggX1_check_X1_findModel
set_option maxRecDepth 20000 in
theorem ggX1_check_X0_takeByte : GoodIn wsX1_check wsX0_takeByte := goodIn_r _ [14, 15, 16, 17, 13, 18, 19, 20, 5, 21, 22, 23, 24, 25, 26, 27, 28, 29, 30, 31, 32, 33, 44, 45, 46, 47, 48, 49, 50, 51] (by decide +kernel) (by decide +kernel)
set_option maxRecDepth 20000 in
theorem gX1_check_X0_takeByte : GoodIn wsX1_check (wsV RX1 54 RX0 yX0_takeByte wsX0_takeByte) := goodIn_app (goodIn_of _ (by decide +kernel)) ggX1_check_X0_takeByte
set_option maxRecDepth 20000 in
theorem ggX1_check_X0_sumOfRegister : GoodIn wsX1_check wsX0_sumOfRegister := goodIn_r _ [37, 38, 39, 40, 41, 13, 42, 43, 26, 20, 5, 21, 44, 45, 46, 47, 48, 49, 50, 51] (by decide +kernel) (by decide +kernel)
set_option maxRecDepth 20000 in
theorem gX1_check_X0_sumOfRegister : GoodIn wsX1_check (wsV RX1 58 RX0 yX0_sumOfRegister wsX0_sumOfRegister) := goodIn_app (goodIn_of _ (by decide +kernel)) ggX1_check_X0_sumOfRegister
theorem dX1_check_0 : decode cX1_check 0 = .ok (.aload_n 0, 1) := by decide +kernel
theorem dX1_check_1 : decode cX1_check 1 = .ok (.iload_n 1, 1) := by decide +kernel
theorem dX1_check_2 : decode cX1_check 2 = .ok (.invokevirtual 47, 3) := by decide +kernel
theorem dX1_check_5 : decode cX1_check 5 = .ok (.astore_n 2, 1) := by decide +kernel
theorem dX1_check_6 : decode cX1_check 6 = .ok (.aload_n 2, 1) := by decide +kernel
theorem dX1_check_7 : decode cX1_check 7 = .ok (.getfield 51, 3) := by decide +kernel
theorem dX1_check_10 : decode cX1_check 10 = .ok (.istore_n 3, 1) := by decide +kernel
theorem dX1_check_11 : decode cX1_check 11 = .ok (.bipush 49, 2) := by decide +kernel
theorem dX1_check_13 : decode cX1_check 13 = .ok (.istore 4, 2) := by decide +kernel
theorem dX1_check_15 : decode cX1_check 15 = .ok (.iload 4, 2) := by decide +kernel
theorem dX1_check_17 : decode cX1_check 17 = .ok (.bipush 57, 2) := by decide +kernel
theorem dX1_check_19 : decode cX1_check 19 = .ok (.if_icmp .gt 17, 3) := by decide +kernel
theorem dX1_check_22 : decode cX1_check 22 = .ok (.aload_n 2, 1) := by decide +kernel
theorem dX1_check_23 : decode cX1_check 23 = .ok (.iload_n 3, 1) := by decide +kernel
theorem dX1_check_24 : decode cX1_check 24 = .ok (.iload 4, 2) := by decide +kernel
theorem dX1_check_26 : decode cX1_check 26 = .ok (.invokevirtual 54, 3) := by decide +kernel
theorem dX1_check_29 : decode cX1_check 29 = .ok (.istore_n 3, 1) := by decide +kernel
theorem dX1_check_30 : decode cX1_check 30 = .ok (.iinc 4 1, 3) := by decide +kernel
theorem dX1_check_33 : decode cX1_check 33 = .ok (.goto (-18), 3) := by decide +kernel
theorem dX1_check_36 : decode cX1_check 36 = .ok (.aload_n 2, 1) := by decide +kernel
theorem dX1_check_37 : decode cX1_check 37 = .ok (.iload_n 3, 1) := by decide +kernel
theorem dX1_check_38 : decode cX1_check 38 = .ok (.invokevirtual 58, 3) := by decide +kernel
theorem dX1_check_41 : decode cX1_check 41 = .ok (.ireturn, 1) := by decide +kernel
set_option maxRecDepth 20000 in
theorem ggX1_multiply_X1_findModel : GoodIn wsX1_multiply wsX1_findModel := goodIn_ca (goodIn_r _ [6, 7, 8, 9, 36, 37, 38, 39] (by decide +kernel) (by decide +kernel)) (goodIn_sub (fun _ h => List.mem_cons_of_mem _ (List.mem_append_left _ (List.mem_append_right _ h))) (by decide +kernel))
set_option maxRecDepth 20000 in
theorem gX1_multiply_X1_findModel : GoodIn wsX1_multiply (wsV RX1 47 RX1 yX1_findModel wsX1_findModel) := goodIn_app (goodIn_of _ (by decide +kernel)) ggX1_multiply_X1_findModel
set_option maxRecDepth 20000 in
theorem ggX1_multiply_X1_requireNumber : GoodIn wsX1_multiply wsX1_requireNumber := goodIn_ca (goodIn_r _ [12, 13, 14] (by decide +kernel) (by decide +kernel)) (goodIn_sub (fun _ h => List.mem_cons_of_mem _ (List.mem_append_right _ h)) (by decide +kernel))
set_option maxRecDepth 20000 in
theorem gX1_multiply_X1_requireNumber : GoodIn wsX1_multiply (va_wsS RX1 35 yX1_requireNumber wsX1_requireNumber) := goodIn_app (goodIn_of _ (by decide +kernel)) ggX1_multiply_X1_requireNumber
set_option maxRecDepth 20000 in
theorem ggX1_multiply_X0_product : GoodIn wsX1_multiply wsX0_product := goodIn_r _ [19, 20, 21, 22, 23, 18, 24, 25, 26, 27, 28, 29, 30, 31, 32, 33, 34, 35] (by decide +kernel) (by decide +kernel)
set_option maxRecDepth 20000 in
theorem gX1_multiply_X0_product : GoodIn wsX1_multiply (wsV RX1 65 RX0 yX0_product wsX0_product) := goodIn_app (goodIn_of _ (by decide +kernel)) ggX1_multiply_X0_product
theorem dX1_multiply_0 : decode cX1_multiply 0 = .ok (.aload_n 0, 1) := by decide +kernel
theorem dX1_multiply_1 : decode cX1_multiply 1 = .ok (.iload_n 1, 1) := by decide +kernel
theorem dX1_multiply_2 : decode cX1_multiply 2 = .ok (.invokevirtual 47, 3) := by decide +kernel
theorem dX1_multiply_5 : decode cX1_multiply 5 = .ok (.astore 4, 2) := by decide +kernel
theorem dX1_multiply_7 : decode cX1_multiply 7 = .ok (.aload 4, 2) := by decide +kernel
theorem dX1_multiply_9 : decode cX1_multiply 9 = .ok (.getfield 62, 3) := by decide +kernel
theorem dX1_multiply_12 : decode cX1_multiply 12 = .ok (.iload_n 2, 1) := by decide +kernel
theorem dX1_multiply_13 : decode cX1_multiply 13 = .ok (.invokestatic 35, 3) := by decide +kernel
theorem dX1_multiply_16 : decode cX1_multiply 16 = .ok (.aload 4, 2) := by decide +kernel
theorem dX1_multiply_18 : decode cX1_multiply 18 = .ok (.getfield 62, 3) := by decide +kernel
theorem dX1_multiply_21 : decode cX1_multiply 21 = .ok (.iload_n 3, 1) := by decide +kernel
theorem dX1_multiply_22 : decode cX1_multiply 22 = .ok (.invokestatic 35, 3) := by decide +kernel
theorem dX1_multiply_25 : decode cX1_multiply 25 = .ok (.aload 4, 2) := by decide +kernel
theorem dX1_multiply_27 : decode cX1_multiply 27 = .ok (.iload_n 2, 1) := by decide +kernel
theorem dX1_multiply_28 : decode cX1_multiply 28 = .ok (.iload_n 3, 1) := by decide +kernel
theorem dX1_multiply_29 : decode cX1_multiply 29 = .ok (.invokevirtual 65, 3) := by decide +kernel
theorem dX1_multiply_32 : decode cX1_multiply 32 = .ok (.ireturn, 1) := by decide +kernel
set_option maxRecDepth 20000 in
theorem ggX1_power_X1_findModel : GoodIn wsX1_power wsX1_findModel := goodIn_ca (goodIn_r _ [7, 8, 9, 10, 28, 29, 30, 31] (by decide +kernel) (by decide +kernel)) (goodIn_sub (fun _ h => List.mem_cons_of_mem _ (List.mem_append_right _ h)) (by decide +kernel))
set_option maxRecDepth 20000 in
theorem gX1_power_X1_findModel : GoodIn wsX1_power (wsV RX1 47 RX1 yX1_findModel wsX1_findModel) := goodIn_app (goodIn_of _ (by decide +kernel)) ggX1_power_X1_findModel
set_option maxRecDepth 20000 in
theorem ggX1_power_X0_powerOfX : GoodIn wsX1_power wsX0_powerOfX := goodIn_r _ [15, 16, 17, 18, 14, 19, 20, 21, 22, 23, 24, 25, 26, 27, 32, 33, 34, 35, 36, 37, 38, 39] (by decide +kernel) (by decide +kernel)
set_option maxRecDepth 20000 in
theorem gX1_power_X0_powerOfX : GoodIn wsX1_power (wsV RX1 70 RX0 yX0_powerOfX wsX0_powerOfX) := goodIn_app (goodIn_of _ (by decide +kernel)) ggX1_power_X0_powerOfX
theorem dX1_power_0 : decode cX1_power 0 = .ok (.aload_n 0, 1) := by decide +kernel
theorem dX1_power_1 : decode cX1_power 1 = .ok (.iload_n 1, 1) := by decide +kernel
theorem dX1_power_2 : decode cX1_power 2 = .ok (.invokevirtual 47, 3) := by decide +kernel
theorem dX1_power_5 : decode cX1_power 5 = .ok (.astore 4, 2) := by decide +kernel
theorem dX1_power_7 : decode cX1_power 7 = .ok (.lload_n 2, 1) := by decide +kernel
theorem dX1_power_8 : decode cX1_power 8 = .ok (.lconst 0, 1) := by decide +kernel
theorem dX1_power_9 : decode cX1_power 9 = .ok (.lcmp, 1) := by decide +kernel
theorem dX1_power_10 : decode cX1_power 10 = .ok (.ifCond .ge 13, 3) := by decide +kernel
theorem dX1_power_13 : decode cX1_power 13 = .ok (.new 28, 3) := by decide +kernel
theorem dX1_power_16 : decode cX1_power 16 = .ok (.dup, 1) := by decide +kernel
theorem dX1_power_17 : decode cX1_power 17 = .ok (.ldc 68, 2) := by decide +kernel
theorem dX1_power_19 : decode cX1_power 19 = .ok (.invokespecial 32, 3) := by decide +kernel
theorem dX1_power_22 : decode cX1_power 22 = .ok (.athrow, 1) := by decide +kernel
theorem dX1_power_23 : decode cX1_power 23 = .ok (.aload 4, 2) := by decide +kernel
theorem dX1_power_25 : decode cX1_power 25 = .ok (.lload_n 2, 1) := by decide +kernel
theorem dX1_power_26 : decode cX1_power 26 = .ok (.invokevirtual 70, 3) := by decide +kernel
theorem dX1_power_29 : decode cX1_power 29 = .ok (.ireturn, 1) := by decide +kernel
set_option maxRecDepth 20000 in
theorem ggX1_period_X1_findModel : GoodIn wsX1_period wsX1_findModel := goodIn_ca (goodIn_r _ [8, 9, 10, 11, 20, 21, 22, 23] (by decide +kernel) (by decide +kernel)) (goodIn_sub (fun _ h => List.mem_cons_of_mem _ (List.mem_append_right _ h)) (by decide +kernel))
set_option maxRecDepth 20000 in
theorem gX1_period_X1_findModel : GoodIn wsX1_period (wsV RX1 47 RX1 yX1_findModel wsX1_findModel) := goodIn_app (goodIn_of _ (by decide +kernel)) ggX1_period_X1_findModel
set_option maxRecDepth 20000 in
theorem ggX1_period_X0_timesX : GoodIn wsX1_period wsX0_timesX := goodIn_r _ [16, 17, 18, 19, 24, 25, 26, 27, 28, 29, 30, 31] (by decide +kernel) (by decide +kernel)
set_option maxRecDepth 20000 in
theorem gX1_period_X0_timesX : GoodIn wsX1_period (wsV RX1 77 RX0 yX0_timesX wsX0_timesX) := goodIn_app (goodIn_of _ (by decide +kernel)) ggX1_period_X0_timesX
theorem dX1_period_0 : decode cX1_period 0 = .ok (.aload_n 0, 1) := by decide +kernel
theorem dX1_period_1 : decode cX1_period 1 = .ok (.iload_n 1, 1) := by decide +kernel
theorem dX1_period_2 : decode cX1_period 2 = .ok (.invokevirtual 47, 3) := by decide +kernel
theorem dX1_period_5 : decode cX1_period 5 = .ok (.astore_n 3, 1) := by decide +kernel
theorem dX1_period_6 : decode cX1_period 6 = .ok (.iload_n 2, 1) := by decide +kernel
theorem dX1_period_7 : decode cX1_period 7 = .ok (.iconst 1, 1) := by decide +kernel
theorem dX1_period_8 : decode cX1_period 8 = .ok (.if_icmp .lt 9, 3) := by decide +kernel
theorem dX1_period_11 : decode cX1_period 11 = .ok (.iload_n 2, 1) := by decide +kernel
theorem dX1_period_12 : decode cX1_period 12 = .ok (.ldc 74, 2) := by decide +kernel
theorem dX1_period_14 : decode cX1_period 14 = .ok (.if_icmp .le 13, 3) := by decide +kernel
theorem dX1_period_17 : decode cX1_period 17 = .ok (.new 28, 3) := by decide +kernel
theorem dX1_period_20 : decode cX1_period 20 = .ok (.dup, 1) := by decide +kernel
theorem dX1_period_21 : decode cX1_period 21 = .ok (.ldc 75, 2) := by decide +kernel
theorem dX1_period_23 : decode cX1_period 23 = .ok (.invokespecial 32, 3) := by decide +kernel
theorem dX1_period_26 : decode cX1_period 26 = .ok (.athrow, 1) := by decide +kernel
theorem dX1_period_27 : decode cX1_period 27 = .ok (.iconst 1, 1) := by decide +kernel
theorem dX1_period_28 : decode cX1_period 28 = .ok (.istore 4, 2) := by decide +kernel
theorem dX1_period_30 : decode cX1_period 30 = .ok (.iconst 1, 1) := by decide +kernel
theorem dX1_period_31 : decode cX1_period 31 = .ok (.istore 5, 2) := by decide +kernel
theorem dX1_period_33 : decode cX1_period 33 = .ok (.iload 5, 2) := by decide +kernel
theorem dX1_period_35 : decode cX1_period 35 = .ok (.iload_n 2, 1) := by decide +kernel
theorem dX1_period_36 : decode cX1_period 36 = .ok (.if_icmp .gt 26, 3) := by decide +kernel
theorem dX1_period_39 : decode cX1_period 39 = .ok (.aload_n 3, 1) := by decide +kernel
theorem dX1_period_40 : decode cX1_period 40 = .ok (.iload 4, 2) := by decide +kernel
theorem dX1_period_42 : decode cX1_period 42 = .ok (.invokevirtual 77, 3) := by decide +kernel
theorem dX1_period_45 : decode cX1_period 45 = .ok (.istore 4, 2) := by decide +kernel
theorem dX1_period_47 : decode cX1_period 47 = .ok (.iload 4, 2) := by decide +kernel
theorem dX1_period_49 : decode cX1_period 49 = .ok (.iconst 1, 1) := by decide +kernel
theorem dX1_period_50 : decode cX1_period 50 = .ok (.if_icmp .ne 6, 3) := by decide +kernel
theorem dX1_period_53 : decode cX1_period 53 = .ok (.iload 5, 2) := by decide +kernel
theorem dX1_period_55 : decode cX1_period 55 = .ok (.ireturn, 1) := by decide +kernel
theorem dX1_period_56 : decode cX1_period 56 = .ok (.iinc 5 1, 3) := by decide +kernel
theorem dX1_period_59 : decode cX1_period 59 = .ok (.goto (-26), 3) := by decide +kernel
theorem dX1_period_62 : decode cX1_period 62 = .ok (.iconst (-1), 1) := by decide +kernel
theorem dX1_period_63 : decode cX1_period 63 = .ok (.ireturn, 1) := by decide +kernel
set_option maxRecDepth 20000 in
theorem ggX1_append_X1_requireRow : GoodIn wsX1_append wsX1_requireRow := goodIn_ca (goodIn_r _ [6, 7, 8] (by decide +kernel) (by decide +kernel)) (goodIn_sub (fun _ h => List.mem_cons_of_mem _ (List.mem_append_left _ (List.mem_append_left _ (List.mem_append_right _ h)))) (by decide +kernel))
set_option maxRecDepth 20000 in
theorem gX1_append_X1_requireRow : GoodIn wsX1_append (va_wsS RX1 80 yX1_requireRow wsX1_requireRow) := goodIn_app (goodIn_of _ (by decide +kernel)) ggX1_append_X1_requireRow
set_option maxRecDepth 20000 in
theorem ggX1_append_X1_requireByte : GoodIn wsX1_append wsX1_requireByte := goodIn_ca (goodIn_r _ [11, 12, 13] (by decide +kernel) (by decide +kernel)) (goodIn_sub (fun _ h => List.mem_cons_of_mem _ (List.mem_append_left _ (List.mem_append_right _ h))) (by decide +kernel))
set_option maxRecDepth 20000 in
theorem gX1_append_X1_requireByte : GoodIn wsX1_append (va_wsS RX1 84 yX1_requireByte wsX1_requireByte) := goodIn_app (goodIn_of _ (by decide +kernel)) ggX1_append_X1_requireByte
set_option maxRecDepth 20000 in
theorem ggX1_append_X1_requireRoom : GoodIn wsX1_append wsX1_requireRoom := goodIn_ca (goodIn_r _ [17, 18, 19, 2, 20, 21, 22, 23] (by decide +kernel) (by decide +kernel)) (goodIn_sub (fun _ h => List.mem_cons_of_mem _ (List.mem_append_right _ h)) (by decide +kernel))
set_option maxRecDepth 20000 in
theorem gX1_append_X1_requireRoom : GoodIn wsX1_append (wsV RX1 87 RX1 yX1_requireRoom wsX1_requireRoom) := goodIn_app (goodIn_of _ (by decide +kernel)) ggX1_append_X1_requireRoom
theorem dX1_append_0 : decode cX1_append 0 = .ok (.iload_n 1, 1) := by decide +kernel
theorem dX1_append_1 : decode cX1_append 1 = .ok (.invokestatic 80, 3) := by decide +kernel
theorem dX1_append_4 : decode cX1_append 4 = .ok (.iload_n 2, 1) := by decide +kernel
theorem dX1_append_5 : decode cX1_append 5 = .ok (.invokestatic 84, 3) := by decide +kernel
theorem dX1_append_8 : decode cX1_append 8 = .ok (.aload_n 0, 1) := by decide +kernel
theorem dX1_append_9 : decode cX1_append 9 = .ok (.iload_n 1, 1) := by decide +kernel
theorem dX1_append_10 : decode cX1_append 10 = .ok (.iconst 1, 1) := by decide +kernel
theorem dX1_append_11 : decode cX1_append 11 = .ok (.invokevirtual 87, 3) := by decide +kernel
theorem dX1_append_14 : decode cX1_append 14 = .ok (.aload_n 0, 1) := by decide +kernel
theorem dX1_append_15 : decode cX1_append 15 = .ok (.getfield 21, 3) := by decide +kernel
theorem dX1_append_18 : decode cX1_append 18 = .ok (.iload_n 1, 1) := by decide +kernel
theorem dX1_append_19 : decode cX1_append 19 = .ok (.aaload, 1) := by decide +kernel
theorem dX1_append_20 : decode cX1_append 20 = .ok (.aload_n 0, 1) := by decide +kernel
theorem dX1_append_21 : decode cX1_append 21 = .ok (.getfield 24, 3) := by decide +kernel
theorem dX1_append_24 : decode cX1_append 24 = .ok (.iload_n 1, 1) := by decide +kernel
theorem dX1_append_25 : decode cX1_append 25 = .ok (.iaload, 1) := by decide +kernel
theorem dX1_append_26 : decode cX1_append 26 = .ok (.iload_n 2, 1) := by decide +kernel
theorem dX1_append_27 : decode cX1_append 27 = .ok (.iastore, 1) := by decide +kernel
theorem dX1_append_28 : decode cX1_append 28 = .ok (.aload_n 0, 1) := by decide +kernel
theorem dX1_append_29 : decode cX1_append 29 = .ok (.getfield 24, 3) := by decide +kernel
theorem dX1_append_32 : decode cX1_append 32 = .ok (.iload_n 1, 1) := by decide +kernel
theorem dX1_append_33 : decode cX1_append 33 = .ok (.dup2, 1) := by decide +kernel
theorem dX1_append_34 : decode cX1_append 34 = .ok (.iaload, 1) := by decide +kernel
theorem dX1_append_35 : decode cX1_append 35 = .ok (.iconst 1, 1) := by decide +kernel
theorem dX1_append_36 : decode cX1_append 36 = .ok (.iadd, 1) := by decide +kernel
theorem dX1_append_37 : decode cX1_append 37 = .ok (.iastore, 1) := by decide +kernel
theorem dX1_append_38 : decode cX1_append 38 = .ok (.aload_n 0, 1) := by decide +kernel
theorem dX1_append_39 : decode cX1_append 39 = .ok (.getfield 24, 3) := by decide +kernel
theorem dX1_append_42 : decode cX1_append 42 = .ok (.iload_n 1, 1) := by decide +kernel
theorem dX1_append_43 : decode cX1_append 43 = .ok (.iaload, 1) := by decide +kernel
theorem dX1_append_44 : decode cX1_append 44 = .ok (.ireturn, 1) := by decide +kernel
set_option maxRecDepth 20000 in
theorem ggX1_appendSeries_X1_requireRow : GoodIn wsX1_appendSeries wsX1_requireRow := goodIn_ca (goodIn_r _ [8, 9, 10] (by decide +kernel) (by decide +kernel)) (goodIn_sub (fun _ h => List.mem_cons_of_mem _ (List.mem_append_left _ (List.mem_append_right _ h))) (by decide +kernel))
set_option maxRecDepth 20000 in
theorem gX1_appendSeries_X1_requireRow : GoodIn wsX1_appendSeries (va_wsS RX1 80 yX1_requireRow wsX1_requireRow) := goodIn_app (goodIn_of _ (by decide +kernel)) ggX1_appendSeries_X1_requireRow
set_option maxRecDepth 20000 in
theorem ggX1_appendSeries_X1_requireByte : GoodIn wsX1_appendSeries wsX1_requireByte := goodIn_ca (goodIn_r _ [13, 1, 2] (by decide +kernel) (by decide +kernel)) (goodIn_sub (fun _ h => List.mem_cons_of_mem _ (List.mem_append_left _ (List.mem_append_left _ (List.mem_append_right _ h)))) (by decide +kernel))
set_option maxRecDepth 20000 in
theorem gX1_appendSeries_X1_requireByte : GoodIn wsX1_appendSeries (va_wsS RX1 84 yX1_requireByte wsX1_requireByte) := goodIn_app (goodIn_of _ (by decide +kernel)) ggX1_appendSeries_X1_requireByte
set_option maxRecDepth 20000 in
theorem ggX1_appendSeries_X1_requireRoom : GoodIn wsX1_appendSeries wsX1_requireRoom := goodIn_ca (goodIn_r _ [17, 18, 19, 3, 20, 21, 22, 23] (by decide +kernel) (by decide +kernel)) (goodIn_sub (fun _ h => List.mem_cons_of_mem _ (List.mem_append_right _ h)) (by decide +kernel))
set_option maxRecDepth 20000 in
theorem gX1_appendSeries_X1_requireRoom : GoodIn wsX1_appendSeries (wsV RX1 87 RX1 yX1_requireRoom wsX1_requireRoom) := goodIn_app (goodIn_of _ (by decide +kernel)) ggX1_appendSeries_X1_requireRoom
theorem dX1_appendSeries_0 : decode cX1_appendSeries 0 = .ok (.iload_n 1, 1) := by decide +kernel
theorem dX1_appendSeries_1 : decode cX1_appendSeries 1 = .ok (.invokestatic 80, 3) := by decide +kernel
theorem dX1_appendSeries_4 : decode cX1_appendSeries 4 = .ok (.iload_n 2, 1) := by decide +kernel
theorem dX1_appendSeries_5 : decode cX1_appendSeries 5 = .ok (.invokestatic 84, 3) := by decide +kernel
theorem dX1_appendSeries_8 : decode cX1_appendSeries 8 = .ok (.iload_n 3, 1) := by decide +kernel
theorem dX1_appendSeries_9 : decode cX1_appendSeries 9 = .ok (.invokestatic 84, 3) := by decide +kernel
theorem dX1_appendSeries_12 : decode cX1_appendSeries 12 = .ok (.iload 4, 2) := by decide +kernel
theorem dX1_appendSeries_14 : decode cX1_appendSeries 14 = .ok (.iconst 1, 1) := by decide +kernel
theorem dX1_appendSeries_15 : decode cX1_appendSeries 15 = .ok (.if_icmp .lt 11, 3) := by decide +kernel
theorem dX1_appendSeries_18 : decode cX1_appendSeries 18 = .ok (.iload 4, 2) := by decide +kernel
theorem dX1_appendSeries_20 : decode cX1_appendSeries 20 = .ok (.sipush 256, 3) := by decide +kernel
theorem dX1_appendSeries_23 : decode cX1_appendSeries 23 = .ok (.if_icmp .le 13, 3) := by decide +kernel
theorem dX1_appendSeries_26 : decode cX1_appendSeries 26 = .ok (.new 28, 3) := by decide +kernel
theorem dX1_appendSeries_29 : decode cX1_appendSeries 29 = .ok (.dup, 1) := by decide +kernel
theorem dX1_appendSeries_30 : decode cX1_appendSeries 30 = .ok (.ldc 90, 2) := by decide +kernel
theorem dX1_appendSeries_32 : decode cX1_appendSeries 32 = .ok (.invokespecial 32, 3) := by decide +kernel
theorem dX1_appendSeries_35 : decode cX1_appendSeries 35 = .ok (.athrow, 1) := by decide +kernel
theorem dX1_appendSeries_36 : decode cX1_appendSeries 36 = .ok (.aload_n 0, 1) := by decide +kernel
theorem dX1_appendSeries_37 : decode cX1_appendSeries 37 = .ok (.iload_n 1, 1) := by decide +kernel
theorem dX1_appendSeries_38 : decode cX1_appendSeries 38 = .ok (.iload 4, 2) := by decide +kernel
theorem dX1_appendSeries_40 : decode cX1_appendSeries 40 = .ok (.invokevirtual 87, 3) := by decide +kernel
theorem dX1_appendSeries_43 : decode cX1_appendSeries 43 = .ok (.aload_n 0, 1) := by decide +kernel
theorem dX1_appendSeries_44 : decode cX1_appendSeries 44 = .ok (.getfield 24, 3) := by decide +kernel
theorem dX1_appendSeries_47 : decode cX1_appendSeries 47 = .ok (.iload_n 1, 1) := by decide +kernel
theorem dX1_appendSeries_48 : decode cX1_appendSeries 48 = .ok (.iaload, 1) := by decide +kernel
theorem dX1_appendSeries_49 : decode cX1_appendSeries 49 = .ok (.istore 5, 2) := by decide +kernel
theorem dX1_appendSeries_51 : decode cX1_appendSeries 51 = .ok (.iconst 0, 1) := by decide +kernel
theorem dX1_appendSeries_52 : decode cX1_appendSeries 52 = .ok (.istore 6, 2) := by decide +kernel
theorem dX1_appendSeries_54 : decode cX1_appendSeries 54 = .ok (.iload 6, 2) := by decide +kernel
theorem dX1_appendSeries_56 : decode cX1_appendSeries 56 = .ok (.iload 4, 2) := by decide +kernel
theorem dX1_appendSeries_58 : decode cX1_appendSeries 58 = .ok (.if_icmp .ge 31, 3) := by decide +kernel
theorem dX1_appendSeries_61 : decode cX1_appendSeries 61 = .ok (.aload_n 0, 1) := by decide +kernel
theorem dX1_appendSeries_62 : decode cX1_appendSeries 62 = .ok (.getfield 21, 3) := by decide +kernel
theorem dX1_appendSeries_65 : decode cX1_appendSeries 65 = .ok (.iload_n 1, 1) := by decide +kernel
theorem dX1_appendSeries_66 : decode cX1_appendSeries 66 = .ok (.aaload, 1) := by decide +kernel
theorem dX1_appendSeries_67 : decode cX1_appendSeries 67 = .ok (.iload 5, 2) := by decide +kernel
theorem dX1_appendSeries_69 : decode cX1_appendSeries 69 = .ok (.iload 6, 2) := by decide +kernel
theorem dX1_appendSeries_71 : decode cX1_appendSeries 71 = .ok (.iadd, 1) := by decide +kernel
theorem dX1_appendSeries_72 : decode cX1_appendSeries 72 = .ok (.iload_n 2, 1) := by decide +kernel
theorem dX1_appendSeries_73 : decode cX1_appendSeries 73 = .ok (.iload 6, 2) := by decide +kernel
theorem dX1_appendSeries_75 : decode cX1_appendSeries 75 = .ok (.iload_n 3, 1) := by decide +kernel
theorem dX1_appendSeries_76 : decode cX1_appendSeries 76 = .ok (.imul, 1) := by decide +kernel
theorem dX1_appendSeries_77 : decode cX1_appendSeries 77 = .ok (.iadd, 1) := by decide +kernel
theorem dX1_appendSeries_78 : decode cX1_appendSeries 78 = .ok (.sipush 255, 3) := by decide +kernel
theorem dX1_appendSeries_81 : decode cX1_appendSeries 81 = .ok (.iand, 1) := by decide +kernel
theorem dX1_appendSeries_82 : decode cX1_appendSeries 82 = .ok (.iastore, 1) := by decide +kernel
theorem dX1_appendSeries_83 : decode cX1_appendSeries 83 = .ok (.iinc 6 1, 3) := by decide +kernel
theorem dX1_appendSeries_86 : decode cX1_appendSeries 86 = .ok (.goto (-32), 3) := by decide +kernel
theorem dX1_appendSeries_89 : decode cX1_appendSeries 89 = .ok (.aload_n 0, 1) := by decide +kernel
theorem dX1_appendSeries_90 : decode cX1_appendSeries 90 = .ok (.getfield 24, 3) := by decide +kernel
theorem dX1_appendSeries_93 : decode cX1_appendSeries 93 = .ok (.iload_n 1, 1) := by decide +kernel
theorem dX1_appendSeries_94 : decode cX1_appendSeries 94 = .ok (.iload 5, 2) := by decide +kernel
theorem dX1_appendSeries_96 : decode cX1_appendSeries 96 = .ok (.iload 4, 2) := by decide +kernel
theorem dX1_appendSeries_98 : decode cX1_appendSeries 98 = .ok (.iadd, 1) := by decide +kernel
theorem dX1_appendSeries_99 : decode cX1_appendSeries 99 = .ok (.iastore, 1) := by decide +kernel
theorem dX1_appendSeries_100 : decode cX1_appendSeries 100 = .ok (.aload_n 0, 1) := by decide +kernel
theorem dX1_appendSeries_101 : decode cX1_appendSeries 101 = .ok (.getfield 24, 3) := by decide +kernel
theorem dX1_appendSeries_104 : decode cX1_appendSeries 104 = .ok (.iload_n 1, 1) := by decide +kernel
theorem dX1_appendSeries_105 : decode cX1_appendSeries 105 = .ok (.iaload, 1) := by decide +kernel
theorem dX1_appendSeries_106 : decode cX1_appendSeries 106 = .ok (.ireturn, 1) := by decide +kernel
set_option maxRecDepth 20000 in
theorem ggX1_appendRow_X1_requireRow : GoodIn wsX1_appendRow wsX1_requireRow := goodIn_ca (goodIn_r _ [6, 7, 8] (by decide +kernel) (by decide +kernel)) (goodIn_sub (fun _ h => List.mem_cons_of_mem _ (List.mem_append_left _ (List.mem_append_right _ h))) (by decide +kernel))
set_option maxRecDepth 20000 in
theorem gX1_appendRow_X1_requireRow : GoodIn wsX1_appendRow (va_wsS RX1 80 yX1_requireRow wsX1_requireRow) := goodIn_app (goodIn_of _ (by decide +kernel)) ggX1_appendRow_X1_requireRow
set_option maxRecDepth 20000 in
theorem ggX1_appendRow_X1_requireRoom : GoodIn wsX1_appendRow wsX1_requireRoom := goodIn_ca (goodIn_r _ [12, 13, 14, 1, 15, 16, 17, 18] (by decide +kernel) (by decide +kernel)) (goodIn_sub (fun _ h => List.mem_cons_of_mem _ (List.mem_append_right _ h)) (by decide +kernel))
set_option maxRecDepth 20000 in
theorem gX1_appendRow_X1_requireRoom : GoodIn wsX1_appendRow (wsV RX1 87 RX1 yX1_requireRoom wsX1_requireRoom) := goodIn_app (goodIn_of _ (by decide +kernel)) ggX1_appendRow_X1_requireRoom
theorem dX1_appendRow_0 : decode cX1_appendRow 0 = .ok (.iload_n 1, 1) := by decide +kernel
theorem dX1_appendRow_1 : decode cX1_appendRow 1 = .ok (.invokestatic 80, 3) := by decide +kernel
theorem dX1_appendRow_4 : decode cX1_appendRow 4 = .ok (.iload_n 2, 1) := by decide +kernel
theorem dX1_appendRow_5 : decode cX1_appendRow 5 = .ok (.invokestatic 80, 3) := by decide +kernel
theorem dX1_appendRow_8 : decode cX1_appendRow 8 = .ok (.aload_n 0, 1) := by decide +kernel
theorem dX1_appendRow_9 : decode cX1_appendRow 9 = .ok (.getfield 24, 3) := by decide +kernel
theorem dX1_appendRow_12 : decode cX1_appendRow 12 = .ok (.iload_n 2, 1) := by decide +kernel
theorem dX1_appendRow_13 : decode cX1_appendRow 13 = .ok (.iaload, 1) := by decide +kernel
theorem dX1_appendRow_14 : decode cX1_appendRow 14 = .ok (.istore_n 3, 1) := by decide +kernel
theorem dX1_appendRow_15 : decode cX1_appendRow 15 = .ok (.aload_n 0, 1) := by decide +kernel
theorem dX1_appendRow_16 : decode cX1_appendRow 16 = .ok (.iload_n 1, 1) := by decide +kernel
theorem dX1_appendRow_17 : decode cX1_appendRow 17 = .ok (.iload_n 3, 1) := by decide +kernel
theorem dX1_appendRow_18 : decode cX1_appendRow 18 = .ok (.invokevirtual 87, 3) := by decide +kernel
theorem dX1_appendRow_21 : decode cX1_appendRow 21 = .ok (.aload_n 0, 1) := by decide +kernel
theorem dX1_appendRow_22 : decode cX1_appendRow 22 = .ok (.getfield 24, 3) := by decide +kernel
theorem dX1_appendRow_25 : decode cX1_appendRow 25 = .ok (.iload_n 1, 1) := by decide +kernel
theorem dX1_appendRow_26 : decode cX1_appendRow 26 = .ok (.iaload, 1) := by decide +kernel
theorem dX1_appendRow_27 : decode cX1_appendRow 27 = .ok (.istore 4, 2) := by decide +kernel
theorem dX1_appendRow_29 : decode cX1_appendRow 29 = .ok (.iconst 0, 1) := by decide +kernel
theorem dX1_appendRow_30 : decode cX1_appendRow 30 = .ok (.istore 5, 2) := by decide +kernel
theorem dX1_appendRow_32 : decode cX1_appendRow 32 = .ok (.iload 5, 2) := by decide +kernel
theorem dX1_appendRow_34 : decode cX1_appendRow 34 = .ok (.iload_n 3, 1) := by decide +kernel
theorem dX1_appendRow_35 : decode cX1_appendRow 35 = .ok (.if_icmp .ge 30, 3) := by decide +kernel
theorem dX1_appendRow_38 : decode cX1_appendRow 38 = .ok (.aload_n 0, 1) := by decide +kernel
theorem dX1_appendRow_39 : decode cX1_appendRow 39 = .ok (.getfield 21, 3) := by decide +kernel
theorem dX1_appendRow_42 : decode cX1_appendRow 42 = .ok (.iload_n 1, 1) := by decide +kernel
theorem dX1_appendRow_43 : decode cX1_appendRow 43 = .ok (.aaload, 1) := by decide +kernel
theorem dX1_appendRow_44 : decode cX1_appendRow 44 = .ok (.iload 4, 2) := by decide +kernel
theorem dX1_appendRow_46 : decode cX1_appendRow 46 = .ok (.iload 5, 2) := by decide +kernel
theorem dX1_appendRow_48 : decode cX1_appendRow 48 = .ok (.iadd, 1) := by decide +kernel
theorem dX1_appendRow_49 : decode cX1_appendRow 49 = .ok (.aload_n 0, 1) := by decide +kernel
theorem dX1_appendRow_50 : decode cX1_appendRow 50 = .ok (.getfield 21, 3) := by decide +kernel
theorem dX1_appendRow_53 : decode cX1_appendRow 53 = .ok (.iload_n 2, 1) := by decide +kernel
theorem dX1_appendRow_54 : decode cX1_appendRow 54 = .ok (.aaload, 1) := by decide +kernel
theorem dX1_appendRow_55 : decode cX1_appendRow 55 = .ok (.iload 5, 2) := by decide +kernel
theorem dX1_appendRow_57 : decode cX1_appendRow 57 = .ok (.iaload, 1) := by decide +kernel
theorem dX1_appendRow_58 : decode cX1_appendRow 58 = .ok (.iastore, 1) := by decide +kernel
theorem dX1_appendRow_59 : decode cX1_appendRow 59 = .ok (.iinc 5 1, 3) := by decide +kernel
theorem dX1_appendRow_62 : decode cX1_appendRow 62 = .ok (.goto (-30), 3) := by decide +kernel
theorem dX1_appendRow_65 : decode cX1_appendRow 65 = .ok (.aload_n 0, 1) := by decide +kernel
theorem dX1_appendRow_66 : decode cX1_appendRow 66 = .ok (.getfield 24, 3) := by decide +kernel
theorem dX1_appendRow_69 : decode cX1_appendRow 69 = .ok (.iload_n 1, 1) := by decide +kernel
theorem dX1_appendRow_70 : decode cX1_appendRow 70 = .ok (.iload 4, 2) := by decide +kernel
theorem dX1_appendRow_72 : decode cX1_appendRow 72 = .ok (.iload_n 3, 1) := by decide +kernel
theorem dX1_appendRow_73 : decode cX1_appendRow 73 = .ok (.iadd, 1) := by decide +kernel
theorem dX1_appendRow_74 : decode cX1_appendRow 74 = .ok (.iastore, 1) := by decide +kernel
theorem dX1_appendRow_75 : decode cX1_appendRow 75 = .ok (.aload_n 0, 1) := by decide +kernel
theorem dX1_appendRow_76 : decode cX1_appendRow 76 = .ok (.getfield 24, 3) := by decide +kernel
theorem dX1_appendRow_79 : decode cX1_appendRow 79 = .ok (.iload_n 1, 1) := by decide +kernel
theorem dX1_appendRow_80 : decode cX1_appendRow 80 = .ok (.iaload, 1) := by decide +kernel
theorem dX1_appendRow_81 : decode cX1_appendRow 81 = .ok (.ireturn, 1) := by decide +kernel
set_option maxRecDepth 20000 in
theorem ggX1_setByte_X1_requireRow : GoodIn wsX1_setByte wsX1_requireRow := goodIn_ca (goodIn_r _ [5, 6, 7] (by decide +kernel) (by decide +kernel)) (goodIn_sub (fun _ h => List.mem_cons_of_mem _ (List.mem_append_left _ (List.mem_append_right _ h))) (by decide +kernel))
set_option maxRecDepth 20000 in
theorem gX1_setByte_X1_requireRow : GoodIn wsX1_setByte (va_wsS RX1 80 yX1_requireRow wsX1_requireRow) := goodIn_app (goodIn_of _ (by decide +kernel)) ggX1_setByte_X1_requireRow
set_option maxRecDepth 20000 in
theorem ggX1_setByte_X1_requireIndex : GoodIn wsX1_setByte wsX1_requireIndex := goodIn_ca (goodIn_r _ [11, 6, 7, 12, 18, 19, 20, 21] (by decide +kernel) (by decide +kernel)) (goodIn_sub (fun _ h => List.mem_cons_of_mem _ (List.mem_append_left _ (List.mem_append_right _ h))) (by decide +kernel))
set_option maxRecDepth 20000 in
theorem gX1_setByte_X1_requireIndex : GoodIn wsX1_setByte (wsV RX1 92 RX1 yX1_requireIndex wsX1_requireIndex) := goodIn_app (goodIn_of _ (by decide +kernel)) ggX1_setByte_X1_requireIndex
set_option maxRecDepth 20000 in
theorem ggX1_setByte_X1_requireByte : GoodIn wsX1_setByte wsX1_requireByte := goodIn_ca (goodIn_r _ [15, 16, 17] (by decide +kernel) (by decide +kernel)) (goodIn_sub (fun _ h => List.mem_cons_of_mem _ (List.mem_append_right _ h)) (by decide +kernel))
set_option maxRecDepth 20000 in
theorem gX1_setByte_X1_requireByte : GoodIn wsX1_setByte (va_wsS RX1 84 yX1_requireByte wsX1_requireByte) := goodIn_app (goodIn_of _ (by decide +kernel)) ggX1_setByte_X1_requireByte
theorem dX1_setByte_0 : decode cX1_setByte 0 = .ok (.iload_n 1, 1) := by decide +kernel
theorem dX1_setByte_1 : decode cX1_setByte 1 = .ok (.invokestatic 80, 3) := by decide +kernel
theorem dX1_setByte_4 : decode cX1_setByte 4 = .ok (.aload_n 0, 1) := by decide +kernel
theorem dX1_setByte_5 : decode cX1_setByte 5 = .ok (.iload_n 1, 1) := by decide +kernel
theorem dX1_setByte_6 : decode cX1_setByte 6 = .ok (.iload_n 2, 1) := by decide +kernel
theorem dX1_setByte_7 : decode cX1_setByte 7 = .ok (.invokevirtual 92, 3) := by decide +kernel
theorem dX1_setByte_10 : decode cX1_setByte 10 = .ok (.iload_n 3, 1) := by decide +kernel
theorem dX1_setByte_11 : decode cX1_setByte 11 = .ok (.invokestatic 84, 3) := by decide +kernel
theorem dX1_setByte_14 : decode cX1_setByte 14 = .ok (.aload_n 0, 1) := by decide +kernel
theorem dX1_setByte_15 : decode cX1_setByte 15 = .ok (.getfield 21, 3) := by decide +kernel
theorem dX1_setByte_18 : decode cX1_setByte 18 = .ok (.iload_n 1, 1) := by decide +kernel
theorem dX1_setByte_19 : decode cX1_setByte 19 = .ok (.aaload, 1) := by decide +kernel
theorem dX1_setByte_20 : decode cX1_setByte 20 = .ok (.iload_n 2, 1) := by decide +kernel
theorem dX1_setByte_21 : decode cX1_setByte 21 = .ok (.iaload, 1) := by decide +kernel
theorem dX1_setByte_22 : decode cX1_setByte 22 = .ok (.istore 4, 2) := by decide +kernel
theorem dX1_setByte_24 : decode cX1_setByte 24 = .ok (.aload_n 0, 1) := by decide +kernel
theorem dX1_setByte_25 : decode cX1_setByte 25 = .ok (.getfield 21, 3) := by decide +kernel
theorem dX1_setByte_28 : decode cX1_setByte 28 = .ok (.iload_n 1, 1) := by decide +kernel
theorem dX1_setByte_29 : decode cX1_setByte 29 = .ok (.aaload, 1) := by decide +kernel
theorem dX1_setByte_30 : decode cX1_setByte 30 = .ok (.iload_n 2, 1) := by decide +kernel
theorem dX1_setByte_31 : decode cX1_setByte 31 = .ok (.iload_n 3, 1) := by decide +kernel
theorem dX1_setByte_32 : decode cX1_setByte 32 = .ok (.iastore, 1) := by decide +kernel
theorem dX1_setByte_33 : decode cX1_setByte 33 = .ok (.iload 4, 2) := by decide +kernel
theorem dX1_setByte_35 : decode cX1_setByte 35 = .ok (.ireturn, 1) := by decide +kernel
set_option maxRecDepth 20000 in
theorem ggX1_truncate_X1_requireRow : GoodIn wsX1_truncate wsX1_requireRow := goodIn_ca (goodIn_r _ [7, 8, 9] (by decide +kernel) (by decide +kernel)) (goodIn_sub (fun _ h => List.mem_cons_of_mem _ (List.mem_append_right _ h)) (by decide +kernel))
set_option maxRecDepth 20000 in
theorem gX1_truncate_X1_requireRow : GoodIn wsX1_truncate (va_wsS RX1 80 yX1_requireRow wsX1_requireRow) := goodIn_app (goodIn_of _ (by decide +kernel)) ggX1_truncate_X1_requireRow
theorem dX1_truncate_0 : decode cX1_truncate 0 = .ok (.iload_n 1, 1) := by decide +kernel
theorem dX1_truncate_1 : decode cX1_truncate 1 = .ok (.invokestatic 80, 3) := by decide +kernel
theorem dX1_truncate_4 : decode cX1_truncate 4 = .ok (.aload_n 0, 1) := by decide +kernel
theorem dX1_truncate_5 : decode cX1_truncate 5 = .ok (.getfield 24, 3) := by decide +kernel
theorem dX1_truncate_8 : decode cX1_truncate 8 = .ok (.iload_n 1, 1) := by decide +kernel
theorem dX1_truncate_9 : decode cX1_truncate 9 = .ok (.iaload, 1) := by decide +kernel
theorem dX1_truncate_10 : decode cX1_truncate 10 = .ok (.istore_n 3, 1) := by decide +kernel
theorem dX1_truncate_11 : decode cX1_truncate 11 = .ok (.iload_n 2, 1) := by decide +kernel
theorem dX1_truncate_12 : decode cX1_truncate 12 = .ok (.ifCond .lt 8, 3) := by decide +kernel
theorem dX1_truncate_15 : decode cX1_truncate 15 = .ok (.iload_n 2, 1) := by decide +kernel
theorem dX1_truncate_16 : decode cX1_truncate 16 = .ok (.iload_n 3, 1) := by decide +kernel
theorem dX1_truncate_17 : decode cX1_truncate 17 = .ok (.if_icmp .le 13, 3) := by decide +kernel
theorem dX1_truncate_20 : decode cX1_truncate 20 = .ok (.new 28, 3) := by decide +kernel
theorem dX1_truncate_23 : decode cX1_truncate 23 = .ok (.dup, 1) := by decide +kernel
theorem dX1_truncate_24 : decode cX1_truncate 24 = .ok (.ldc 95, 2) := by decide +kernel
theorem dX1_truncate_26 : decode cX1_truncate 26 = .ok (.invokespecial 32, 3) := by decide +kernel
theorem dX1_truncate_29 : decode cX1_truncate 29 = .ok (.athrow, 1) := by decide +kernel
theorem dX1_truncate_30 : decode cX1_truncate 30 = .ok (.aload_n 0, 1) := by decide +kernel
theorem dX1_truncate_31 : decode cX1_truncate 31 = .ok (.getfield 24, 3) := by decide +kernel
theorem dX1_truncate_34 : decode cX1_truncate 34 = .ok (.iload_n 1, 1) := by decide +kernel
theorem dX1_truncate_35 : decode cX1_truncate 35 = .ok (.iload_n 2, 1) := by decide +kernel
theorem dX1_truncate_36 : decode cX1_truncate 36 = .ok (.iastore, 1) := by decide +kernel
theorem dX1_truncate_37 : decode cX1_truncate 37 = .ok (.iload_n 3, 1) := by decide +kernel
theorem dX1_truncate_38 : decode cX1_truncate 38 = .ok (.iload_n 2, 1) := by decide +kernel
theorem dX1_truncate_39 : decode cX1_truncate 39 = .ok (.isub, 1) := by decide +kernel
theorem dX1_truncate_40 : decode cX1_truncate 40 = .ok (.ireturn, 1) := by decide +kernel
set_option maxRecDepth 20000 in
theorem ggX1_length_X1_requireRow : GoodIn wsX1_length wsX1_requireRow := goodIn_ca (goodIn_r _ [5, 6, 7] (by decide +kernel) (by decide +kernel)) (goodIn_sub (fun _ h => List.mem_cons_of_mem _ (List.mem_append_right _ h)) (by decide +kernel))
set_option maxRecDepth 20000 in
theorem gX1_length_X1_requireRow : GoodIn wsX1_length (va_wsS RX1 80 yX1_requireRow wsX1_requireRow) := goodIn_app (goodIn_of _ (by decide +kernel)) ggX1_length_X1_requireRow
theorem dX1_length_0 : decode cX1_length 0 = .ok (.iload_n 1, 1) := by decide +kernel
theorem dX1_length_1 : decode cX1_length 1 = .ok (.invokestatic 80, 3) := by decide +kernel
theorem dX1_length_4 : decode cX1_length 4 = .ok (.aload_n 0, 1) := by decide +kernel
theorem dX1_length_5 : decode cX1_length 5 = .ok (.getfield 24, 3) := by decide +kernel
theorem dX1_length_8 : decode cX1_length 8 = .ok (.iload_n 1, 1) := by decide +kernel
theorem dX1_length_9 : decode cX1_length 9 = .ok (.iaload, 1) := by decide +kernel
theorem dX1_length_10 : decode cX1_length 10 = .ok (.ireturn, 1) := by decide +kernel
set_option maxRecDepth 20000 in
theorem ggX1_byteAt_X1_requireRow : GoodIn wsX1_byteAt wsX1_requireRow := goodIn_ca (goodIn_r _ [5, 6, 7] (by decide +kernel) (by decide +kernel)) (goodIn_sub (fun _ h => List.mem_cons_of_mem _ (List.mem_append_right _ h)) (by decide +kernel))
set_option maxRecDepth 20000 in
theorem gX1_byteAt_X1_requireRow : GoodIn wsX1_byteAt (va_wsS RX1 80 yX1_requireRow wsX1_requireRow) := goodIn_app (goodIn_of _ (by decide +kernel)) ggX1_byteAt_X1_requireRow
set_option maxRecDepth 20000 in
theorem ggX1_byteAt_X1_requireIndex : GoodIn wsX1_byteAt wsX1_requireIndex := goodIn_ca (goodIn_r _ [11, 6, 7, 12, 13, 14, 15, 16] (by decide +kernel) (by decide +kernel)) (goodIn_sub (fun _ h => List.mem_cons_of_mem _ (List.mem_append_right _ h)) (by decide +kernel))
set_option maxRecDepth 20000 in
theorem gX1_byteAt_X1_requireIndex : GoodIn wsX1_byteAt (wsV RX1 92 RX1 yX1_requireIndex wsX1_requireIndex) := goodIn_app (goodIn_of _ (by decide +kernel)) ggX1_byteAt_X1_requireIndex
theorem dX1_byteAt_0 : decode cX1_byteAt 0 = .ok (.iload_n 1, 1) := by decide +kernel
theorem dX1_byteAt_1 : decode cX1_byteAt 1 = .ok (.invokestatic 80, 3) := by decide +kernel
theorem dX1_byteAt_4 : decode cX1_byteAt 4 = .ok (.aload_n 0, 1) := by decide +kernel
theorem dX1_byteAt_5 : decode cX1_byteAt 5 = .ok (.iload_n 1, 1) := by decide +kernel
theorem dX1_byteAt_6 : decode cX1_byteAt 6 = .ok (.iload_n 2, 1) := by decide +kernel
theorem dX1_byteAt_7 : decode cX1_byteAt 7 = .ok (.invokevirtual 92, 3) := by decide +kernel
theorem dX1_byteAt_10 : decode cX1_byteAt 10 = .ok (.aload_n 0, 1) := by decide +kernel
theorem dX1_byteAt_11 : decode cX1_byteAt 11 = .ok (.getfield 21, 3) := by decide +kernel
theorem dX1_byteAt_14 : decode cX1_byteAt 14 = .ok (.iload_n 1, 1) := by decide +kernel
theorem dX1_byteAt_15 : decode cX1_byteAt 15 = .ok (.aaload, 1) := by decide +kernel
theorem dX1_byteAt_16 : decode cX1_byteAt 16 = .ok (.iload_n 2, 1) := by decide +kernel
theorem dX1_byteAt_17 : decode cX1_byteAt 17 = .ok (.iaload, 1) := by decide +kernel
theorem dX1_byteAt_18 : decode cX1_byteAt 18 = .ok (.ireturn, 1) := by decide +kernel
set_option maxRecDepth 20000 in
theorem ggX1_sum_X1_findModel : GoodIn wsX1_sum wsX1_findModel := goodIn_ca (goodIn_r _ [6, 7, 8, 9, 53, 54, 55, 56] (by decide +kernel) (by decide +kernel)) (goodIn_sub (fun _ h => List.mem_cons_of_mem _ (List.mem_append_right _ h)) (by decide +kernel))
set_option maxRecDepth 20000 in
theorem gX1_sum_X1_findModel : GoodIn wsX1_sum (wsV RX1 47 RX1 yX1_findModel wsX1_findModel) := goodIn_app (goodIn_of _ (by decide +kernel)) ggX1_sum_X1_findModel
set_option maxRecDepth 20000 in
theorem ggX1_sum_X1_requireRow : GoodIn wsX1_sum wsX1_requireRow := goodIn_ca (goodIn_r _ [12, 7, 8] (by decide +kernel) (by decide +kernel)) (goodIn_sub (fun _ h => List.mem_cons_of_mem _ (List.mem_append_right _ h)) (by decide +kernel))
set_option maxRecDepth 20000 in
theorem gX1_sum_X1_requireRow : GoodIn wsX1_sum (va_wsS RX1 80 yX1_requireRow wsX1_requireRow) := goodIn_app (goodIn_of _ (by decide +kernel)) ggX1_sum_X1_requireRow
set_option maxRecDepth 20000 in
theorem ggX1_sum_X1_partSum : GoodIn wsX1_sum wsX1_partSum := goodIn_r _ [16, 17, 18, 19, 20, 21, 22, 23, 24, 25, 26, 27, 28, 29, 5, 30, 31, 32, 33, 34, 35, 36, 37, 38, 39, 40, 41, 42, 43, 44, 45, 46, 47, 48, 49, 50, 51, 52, 57, 58, 59, 60, 61, 62, 63, 64, 53, 54, 55, 56] (by decide +kernel) (by decide +kernel)
set_option maxRecDepth 20000 in
theorem gX1_sum_X1_partSum : GoodIn wsX1_sum (wsV RX1 97 RX1 yX1_partSum wsX1_partSum) := goodIn_app (goodIn_of _ (by decide +kernel)) ggX1_sum_X1_partSum
theorem dX1_sum_0 : decode cX1_sum 0 = .ok (.aload_n 0, 1) := by decide +kernel
theorem dX1_sum_1 : decode cX1_sum 1 = .ok (.iload_n 1, 1) := by decide +kernel
theorem dX1_sum_2 : decode cX1_sum 2 = .ok (.invokevirtual 47, 3) := by decide +kernel
theorem dX1_sum_5 : decode cX1_sum 5 = .ok (.astore_n 3, 1) := by decide +kernel
theorem dX1_sum_6 : decode cX1_sum 6 = .ok (.iload_n 2, 1) := by decide +kernel
theorem dX1_sum_7 : decode cX1_sum 7 = .ok (.invokestatic 80, 3) := by decide +kernel
theorem dX1_sum_10 : decode cX1_sum 10 = .ok (.aload_n 0, 1) := by decide +kernel
theorem dX1_sum_11 : decode cX1_sum 11 = .ok (.aload_n 3, 1) := by decide +kernel
theorem dX1_sum_12 : decode cX1_sum 12 = .ok (.iload_n 2, 1) := by decide +kernel
theorem dX1_sum_13 : decode cX1_sum 13 = .ok (.iconst 0, 1) := by decide +kernel
theorem dX1_sum_14 : decode cX1_sum 14 = .ok (.aload_n 0, 1) := by decide +kernel
theorem dX1_sum_15 : decode cX1_sum 15 = .ok (.getfield 24, 3) := by decide +kernel
theorem dX1_sum_18 : decode cX1_sum 18 = .ok (.iload_n 2, 1) := by decide +kernel
theorem dX1_sum_19 : decode cX1_sum 19 = .ok (.iaload, 1) := by decide +kernel
theorem dX1_sum_20 : decode cX1_sum 20 = .ok (.invokevirtual 97, 3) := by decide +kernel
theorem dX1_sum_23 : decode cX1_sum 23 = .ok (.ireturn, 1) := by decide +kernel
set_option maxRecDepth 20000 in
theorem ggX1_sumOfPart_X1_findModel : GoodIn wsX1_sumOfPart wsX1_findModel := goodIn_ca (goodIn_r _ [8, 1, 2, 9, 53, 54, 55, 56] (by decide +kernel) (by decide +kernel)) (goodIn_sub (fun _ h => List.mem_cons_of_mem _ (List.mem_append_right _ h)) (by decide +kernel))
set_option maxRecDepth 20000 in
theorem gX1_sumOfPart_X1_findModel : GoodIn wsX1_sumOfPart (wsV RX1 47 RX1 yX1_findModel wsX1_findModel) := goodIn_app (goodIn_of _ (by decide +kernel)) ggX1_sumOfPart_X1_findModel
set_option maxRecDepth 20000 in
theorem ggX1_sumOfPart_X1_requireRow : GoodIn wsX1_sumOfPart wsX1_requireRow := goodIn_ca (goodIn_r _ [12, 1, 2] (by decide +kernel) (by decide +kernel)) (goodIn_sub (fun _ h => List.mem_cons_of_mem _ (List.mem_append_right _ h)) (by decide +kernel))
set_option maxRecDepth 20000 in
theorem gX1_sumOfPart_X1_requireRow : GoodIn wsX1_sumOfPart (va_wsS RX1 80 yX1_requireRow wsX1_requireRow) := goodIn_app (goodIn_of _ (by decide +kernel)) ggX1_sumOfPart_X1_requireRow
set_option maxRecDepth 20000 in
theorem ggX1_sumOfPart_X1_partSum : GoodIn wsX1_sumOfPart wsX1_partSum := goodIn_r _ [16, 17, 18, 19, 20, 21, 22, 23, 24, 25, 26, 27, 28, 29, 7, 30, 31, 32, 33, 34, 35, 36, 37, 38, 39, 40, 41, 42, 43, 44, 45, 46, 47, 48, 49, 50, 51, 52, 57, 58, 59, 60, 61, 62, 63, 64, 53, 54, 55, 56] (by decide +kernel) (by decide +kernel)
set_option maxRecDepth 20000 in
theorem gX1_sumOfPart_X1_partSum : GoodIn wsX1_sumOfPart (wsV RX1 97 RX1 yX1_partSum wsX1_partSum) := goodIn_app (goodIn_of _ (by decide +kernel)) ggX1_sumOfPart_X1_partSum
theorem dX1_sumOfPart_0 : decode cX1_sumOfPart 0 = .ok (.aload_n 0, 1) := by decide +kernel
theorem dX1_sumOfPart_1 : decode cX1_sumOfPart 1 = .ok (.iload_n 1, 1) := by decide +kernel
theorem dX1_sumOfPart_2 : decode cX1_sumOfPart 2 = .ok (.invokevirtual 47, 3) := by decide +kernel
theorem dX1_sumOfPart_5 : decode cX1_sumOfPart 5 = .ok (.astore 5, 2) := by decide +kernel
theorem dX1_sumOfPart_7 : decode cX1_sumOfPart 7 = .ok (.iload_n 2, 1) := by decide +kernel
theorem dX1_sumOfPart_8 : decode cX1_sumOfPart 8 = .ok (.invokestatic 80, 3) := by decide +kernel
theorem dX1_sumOfPart_11 : decode cX1_sumOfPart 11 = .ok (.iload_n 3, 1) := by decide +kernel
theorem dX1_sumOfPart_12 : decode cX1_sumOfPart 12 = .ok (.ifCond .lt 20, 3) := by decide +kernel
theorem dX1_sumOfPart_15 : decode cX1_sumOfPart 15 = .ok (.iload_n 3, 1) := by decide +kernel
theorem dX1_sumOfPart_16 : decode cX1_sumOfPart 16 = .ok (.iload 4, 2) := by decide +kernel
theorem dX1_sumOfPart_18 : decode cX1_sumOfPart 18 = .ok (.if_icmp .gt 14, 3) := by decide +kernel
theorem dX1_sumOfPart_21 : decode cX1_sumOfPart 21 = .ok (.iload 4, 2) := by decide +kernel
theorem dX1_sumOfPart_23 : decode cX1_sumOfPart 23 = .ok (.aload_n 0, 1) := by decide +kernel
theorem dX1_sumOfPart_24 : decode cX1_sumOfPart 24 = .ok (.getfield 24, 3) := by decide +kernel
theorem dX1_sumOfPart_27 : decode cX1_sumOfPart 27 = .ok (.iload_n 2, 1) := by decide +kernel
theorem dX1_sumOfPart_28 : decode cX1_sumOfPart 28 = .ok (.iaload, 1) := by decide +kernel
theorem dX1_sumOfPart_29 : decode cX1_sumOfPart 29 = .ok (.if_icmp .le 13, 3) := by decide +kernel
theorem dX1_sumOfPart_32 : decode cX1_sumOfPart 32 = .ok (.new 101, 3) := by decide +kernel
theorem dX1_sumOfPart_35 : decode cX1_sumOfPart 35 = .ok (.dup, 1) := by decide +kernel
theorem dX1_sumOfPart_36 : decode cX1_sumOfPart 36 = .ok (.ldc 103, 2) := by decide +kernel
theorem dX1_sumOfPart_38 : decode cX1_sumOfPart 38 = .ok (.invokespecial 105, 3) := by decide +kernel
theorem dX1_sumOfPart_41 : decode cX1_sumOfPart 41 = .ok (.athrow, 1) := by decide +kernel
theorem dX1_sumOfPart_42 : decode cX1_sumOfPart 42 = .ok (.aload_n 0, 1) := by decide +kernel
theorem dX1_sumOfPart_43 : decode cX1_sumOfPart 43 = .ok (.aload 5, 2) := by decide +kernel
theorem dX1_sumOfPart_45 : decode cX1_sumOfPart 45 = .ok (.iload_n 2, 1) := by decide +kernel
theorem dX1_sumOfPart_46 : decode cX1_sumOfPart 46 = .ok (.iload_n 3, 1) := by decide +kernel
theorem dX1_sumOfPart_47 : decode cX1_sumOfPart 47 = .ok (.iload 4, 2) := by decide +kernel
theorem dX1_sumOfPart_49 : decode cX1_sumOfPart 49 = .ok (.invokevirtual 97, 3) := by decide +kernel
theorem dX1_sumOfPart_52 : decode cX1_sumOfPart 52 = .ok (.ireturn, 1) := by decide +kernel
set_option maxRecDepth 20000 in
theorem ggX1_remainder_X1_findModel : GoodIn wsX1_remainder wsX1_findModel := goodIn_ca (goodIn_r _ [7, 8, 9, 10, 26, 27, 28, 29] (by decide +kernel) (by decide +kernel)) (goodIn_sub (fun _ h => List.mem_cons_of_mem _ (List.mem_append_right _ h)) (by decide +kernel))
set_option maxRecDepth 20000 in
theorem gX1_remainder_X1_findModel : GoodIn wsX1_remainder (wsV RX1 47 RX1 yX1_findModel wsX1_findModel) := goodIn_app (goodIn_of _ (by decide +kernel)) ggX1_remainder_X1_findModel
set_option maxRecDepth 20000 in
theorem ggX1_remainder_X1_requireRow : GoodIn wsX1_remainder wsX1_requireRow := goodIn_ca (goodIn_r _ [13, 8, 9] (by decide +kernel) (by decide +kernel)) (goodIn_sub (fun _ h => List.mem_cons_of_mem _ (List.mem_append_right _ h)) (by decide +kernel))
set_option maxRecDepth 20000 in
theorem gX1_remainder_X1_requireRow : GoodIn wsX1_remainder (va_wsS RX1 80 yX1_requireRow wsX1_requireRow) := goodIn_app (goodIn_of _ (by decide +kernel)) ggX1_remainder_X1_requireRow
set_option maxRecDepth 20000 in
theorem ggX1_remainder_X0_divideByte : GoodIn wsX1_remainder wsX0_divideByte := goodIn_r _ [18, 19, 20, 21, 17, 22, 23, 24, 25, 30, 31, 32, 33, 34, 35, 36, 37] (by decide +kernel) (by decide +kernel)
set_option maxRecDepth 20000 in
theorem gX1_remainder_X0_divideByte : GoodIn wsX1_remainder (wsV RX1 106 RX0 yX0_divideByte wsX0_divideByte) := goodIn_app (goodIn_of _ (by decide +kernel)) ggX1_remainder_X0_divideByte
theorem dX1_remainder_0 : decode cX1_remainder 0 = .ok (.aload_n 0, 1) := by decide +kernel
theorem dX1_remainder_1 : decode cX1_remainder 1 = .ok (.iload_n 1, 1) := by decide +kernel
theorem dX1_remainder_2 : decode cX1_remainder 2 = .ok (.invokevirtual 47, 3) := by decide +kernel
theorem dX1_remainder_5 : decode cX1_remainder 5 = .ok (.astore_n 3, 1) := by decide +kernel
theorem dX1_remainder_6 : decode cX1_remainder 6 = .ok (.iload_n 2, 1) := by decide +kernel
theorem dX1_remainder_7 : decode cX1_remainder 7 = .ok (.invokestatic 80, 3) := by decide +kernel
theorem dX1_remainder_10 : decode cX1_remainder 10 = .ok (.aload_n 0, 1) := by decide +kernel
theorem dX1_remainder_11 : decode cX1_remainder 11 = .ok (.getfield 24, 3) := by decide +kernel
theorem dX1_remainder_14 : decode cX1_remainder 14 = .ok (.iload_n 2, 1) := by decide +kernel
theorem dX1_remainder_15 : decode cX1_remainder 15 = .ok (.iaload, 1) := by decide +kernel
theorem dX1_remainder_16 : decode cX1_remainder 16 = .ok (.istore 4, 2) := by decide +kernel
theorem dX1_remainder_18 : decode cX1_remainder 18 = .ok (.iconst 0, 1) := by decide +kernel
theorem dX1_remainder_19 : decode cX1_remainder 19 = .ok (.istore 5, 2) := by decide +kernel
theorem dX1_remainder_21 : decode cX1_remainder 21 = .ok (.iconst 0, 1) := by decide +kernel
theorem dX1_remainder_22 : decode cX1_remainder 22 = .ok (.istore 6, 2) := by decide +kernel
theorem dX1_remainder_24 : decode cX1_remainder 24 = .ok (.iload 6, 2) := by decide +kernel
theorem dX1_remainder_26 : decode cX1_remainder 26 = .ok (.iload 4, 2) := by decide +kernel
theorem dX1_remainder_28 : decode cX1_remainder 28 = .ok (.if_icmp .ge 26, 3) := by decide +kernel
theorem dX1_remainder_31 : decode cX1_remainder 31 = .ok (.aload_n 3, 1) := by decide +kernel
theorem dX1_remainder_32 : decode cX1_remainder 32 = .ok (.iload 5, 2) := by decide +kernel
theorem dX1_remainder_34 : decode cX1_remainder 34 = .ok (.aload_n 0, 1) := by decide +kernel
theorem dX1_remainder_35 : decode cX1_remainder 35 = .ok (.getfield 21, 3) := by decide +kernel
theorem dX1_remainder_38 : decode cX1_remainder 38 = .ok (.iload_n 2, 1) := by decide +kernel
theorem dX1_remainder_39 : decode cX1_remainder 39 = .ok (.aaload, 1) := by decide +kernel
theorem dX1_remainder_40 : decode cX1_remainder 40 = .ok (.iload 6, 2) := by decide +kernel
theorem dX1_remainder_42 : decode cX1_remainder 42 = .ok (.iaload, 1) := by decide +kernel
theorem dX1_remainder_43 : decode cX1_remainder 43 = .ok (.invokevirtual 106, 3) := by decide +kernel
theorem dX1_remainder_46 : decode cX1_remainder 46 = .ok (.istore 5, 2) := by decide +kernel
theorem dX1_remainder_48 : decode cX1_remainder 48 = .ok (.iinc 6 1, 3) := by decide +kernel
theorem dX1_remainder_51 : decode cX1_remainder 51 = .ok (.goto (-27), 3) := by decide +kernel
theorem dX1_remainder_54 : decode cX1_remainder 54 = .ok (.iload 5, 2) := by decide +kernel
theorem dX1_remainder_56 : decode cX1_remainder 56 = .ok (.ireturn, 1) := by decide +kernel
set_option maxRecDepth 20000 in
theorem ggX1_joined_X1_findModel : GoodIn wsX1_joined wsX1_findModel := goodIn_ca (goodIn_r _ [8, 9, 10, 11, 62, 63, 64, 65] (by decide +kernel) (by decide +kernel)) (goodIn_sub (fun _ h => List.mem_cons_of_mem _ (List.mem_append_left _ (List.mem_append_right _ h))) (by decide +kernel))
set_option maxRecDepth 20000 in
theorem gX1_joined_X1_findModel : GoodIn wsX1_joined (wsV RX1 47 RX1 yX1_findModel wsX1_findModel) := goodIn_app (goodIn_of _ (by decide +kernel)) ggX1_joined_X1_findModel
set_option maxRecDepth 20000 in
theorem ggX1_joined_X1_requireNumber : GoodIn wsX1_joined wsX1_requireNumber := goodIn_ca (goodIn_r _ [14, 15, 16] (by decide +kernel) (by decide +kernel)) (goodIn_sub (fun _ h => List.mem_cons_of_mem _ (List.mem_append_right _ h)) (by decide +kernel))
set_option maxRecDepth 20000 in
theorem gX1_joined_X1_requireNumber : GoodIn wsX1_joined (va_wsS RX1 35 yX1_requireNumber wsX1_requireNumber) := goodIn_app (goodIn_of _ (by decide +kernel)) ggX1_joined_X1_requireNumber
set_option maxRecDepth 20000 in
theorem ggX1_joined_X1_requireLength : GoodIn wsX1_joined wsX1_requireLength := goodIn_ca (goodIn_r _ [19, 15, 16] (by decide +kernel) (by decide +kernel)) (goodIn_sub (fun _ h => List.mem_cons_of_mem _ (List.mem_append_right _ h)) (by decide +kernel))
set_option maxRecDepth 20000 in
theorem gX1_joined_X1_requireLength : GoodIn wsX1_joined (va_wsS RX1 109 yX1_requireLength wsX1_requireLength) := goodIn_app (goodIn_of _ (by decide +kernel)) ggX1_joined_X1_requireLength
set_option maxRecDepth 20000 in
theorem ggX1_joined_X0_registerOfSum : GoodIn wsX1_joined wsX0_registerOfSum := goodIn_r _ [24, 25, 26, 27, 28, 23, 29, 30, 31, 32, 7, 33, 54, 55, 56, 57, 58, 59, 60, 61] (by decide +kernel) (by decide +kernel)
set_option maxRecDepth 20000 in
theorem gX1_joined_X0_registerOfSum : GoodIn wsX1_joined (wsV RX1 112 RX0 yX0_registerOfSum wsX0_registerOfSum) := goodIn_app (goodIn_of _ (by decide +kernel)) ggX1_joined_X0_registerOfSum
set_option maxRecDepth 20000 in
theorem ggX1_joined_X0_powerOfX : GoodIn wsX1_joined wsX0_powerOfX := goodIn_r _ [37, 38, 39, 40, 23, 41, 31, 42, 43, 44, 45, 46, 47, 48, 54, 55, 56, 57, 58, 59, 60, 61] (by decide +kernel) (by decide +kernel)
set_option maxRecDepth 20000 in
theorem gX1_joined_X0_powerOfX : GoodIn wsX1_joined (wsV RX1 70 RX0 yX0_powerOfX wsX0_powerOfX) := goodIn_app (goodIn_of _ (by decide +kernel)) ggX1_joined_X0_powerOfX
set_option maxRecDepth 20000 in
theorem ggX1_joined_X0_product : GoodIn wsX1_joined wsX0_product := goodIn_r _ [41, 31, 42, 43, 44, 23, 45, 46, 47, 48, 54, 55, 56, 57, 58, 59, 60, 61] (by decide +kernel) (by decide +kernel)
set_option maxRecDepth 20000 in
theorem gX1_joined_X0_product : GoodIn wsX1_joined (wsV RX1 65 RX0 yX0_product wsX0_product) := goodIn_app (goodIn_of _ (by decide +kernel)) ggX1_joined_X0_product
set_option maxRecDepth 20000 in
theorem ggX1_joined_X0_sumOfRegister : GoodIn wsX1_joined wsX0_sumOfRegister := goodIn_r _ [53, 25, 26, 27, 28, 23, 29, 30, 31, 32, 7, 33, 54, 55, 56, 57, 58, 59, 60, 61] (by decide +kernel) (by decide +kernel)
set_option maxRecDepth 20000 in
theorem gX1_joined_X0_sumOfRegister : GoodIn wsX1_joined (wsV RX1 58 RX0 yX0_sumOfRegister wsX0_sumOfRegister) := goodIn_app (goodIn_of _ (by decide +kernel)) ggX1_joined_X0_sumOfRegister
theorem dX1_joined_0 : decode cX1_joined 0 = .ok (.aload_n 0, 1) := by decide +kernel
theorem dX1_joined_1 : decode cX1_joined 1 = .ok (.iload_n 1, 1) := by decide +kernel
theorem dX1_joined_2 : decode cX1_joined 2 = .ok (.invokevirtual 47, 3) := by decide +kernel
theorem dX1_joined_5 : decode cX1_joined 5 = .ok (.astore 5, 2) := by decide +kernel
theorem dX1_joined_7 : decode cX1_joined 7 = .ok (.aload 5, 2) := by decide +kernel
theorem dX1_joined_9 : decode cX1_joined 9 = .ok (.getfield 62, 3) := by decide +kernel
theorem dX1_joined_12 : decode cX1_joined 12 = .ok (.iload_n 2, 1) := by decide +kernel
theorem dX1_joined_13 : decode cX1_joined 13 = .ok (.invokestatic 35, 3) := by decide +kernel
theorem dX1_joined_16 : decode cX1_joined 16 = .ok (.aload 5, 2) := by decide +kernel
theorem dX1_joined_18 : decode cX1_joined 18 = .ok (.getfield 62, 3) := by decide +kernel
