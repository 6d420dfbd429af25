theorem dX1_init_0 : decode cX1_init 0 = .ok (.aload_n 0, 1) := by decide +kernel
theorem dX1_init_1 : decode cX1_init 1 = .ok (.invokespecial 1, 3) := by decide +kernel
theorem dX1_init_4 : decode cX1_init 4 = .ok (.aload_n 0, 1) := by decide +kernel
theorem dX1_init_5 : decode cX1_init 5 = .ok (.bipush 6, 2) := by decide +kernel
theorem dX1_init_7 : decode cX1_init 7 = .ok (.anewarray 9, 3) := by decide +kernel
theorem dX1_init_10 : decode cX1_init 10 = .ok (.putfield 11, 3) := by decide +kernel
theorem dX1_init_13 : decode cX1_init 13 = .ok (.aload_n 0, 1) := by decide +kernel
theorem dX1_init_14 : decode cX1_init 14 = .ok (.iconst 0, 1) := by decide +kernel
theorem dX1_init_15 : decode cX1_init 15 = .ok (.putfield 15, 3) := by decide +kernel
theorem dX1_init_18 : decode cX1_init 18 = .ok (.aload_n 0, 1) := by decide +kernel
theorem dX1_init_19 : decode cX1_init 19 = .ok (.iconst 4, 1) := by decide +kernel
theorem dX1_init_20 : decode cX1_init 20 = .ok (.sipush 256, 3) := by decide +kernel
theorem dX1_init_23 : decode cX1_init 23 = .ok (.multianewarray 19 2, 4) := by decide +kernel
theorem dX1_init_27 : decode cX1_init 27 = .ok (.putfield 21, 3) := by decide +kernel
theorem dX1_init_30 : decode cX1_init 30 = .ok (.aload_n 0, 1) := by decide +kernel
theorem dX1_init_31 : decode cX1_init 31 = .ok (.iconst 4, 1) := by decide +kernel
theorem dX1_init_32 : decode cX1_init 32 = .ok (.newarray .int, 2) := by decide +kernel
theorem dX1_init_34 : decode cX1_init 34 = .ok (.putfield 24, 3) := by decide +kernel
theorem dX1_init_37 : decode cX1_init 37 = .ok (.return_, 1) := by decide +kernel
set_option maxRecDepth 20000 in
theorem ggX1_define_X1_requireNumber : GoodIn wsX1_define wsX1_requireNumber := goodIn_ca (goodIn_r _ [13, 1, 2] (by decide +kernel) (by decide +kernel)) (goodIn_sub (fun _ h => List.mem_cons_of_mem _ (List.mem_append_left _ (List.mem_append_right _ h))) (by decide +kernel))
set_option maxRecDepth 20000 in
theorem gX1_define_X1_requireNumber : GoodIn wsX1_define (va_wsS RX1 35 yX1_requireNumber wsX1_requireNumber) := goodIn_app (goodIn_of _ (by decide +kernel)) ggX1_define_X1_requireNumber
set_option maxRecDepth 20000 in
theorem ggX1_define_X0_init : GoodIn wsX1_define wsX0_init := goodIn_r _ [16, 17, 18, 19, 20, 21, 22, 23, 24, 25, 26, 27, 32, 33, 34, 35, 36, 37, 38, 39] (by decide +kernel) (by decide +kernel)
set_option maxRecDepth 20000 in
theorem gX1_define_X0_init : GoodIn wsX1_define (wsX0_init) := ggX1_define_X0_init
theorem dX1_define_0 : decode cX1_define 0 = .ok (.iload_n 1, 1) := by decide +kernel
theorem dX1_define_1 : decode cX1_define 1 = .ok (.iconst 1, 1) := by decide +kernel
theorem dX1_define_2 : decode cX1_define 2 = .ok (.if_icmp .lt 9, 3) := by decide +kernel
theorem dX1_define_5 : decode cX1_define 5 = .ok (.iload_n 1, 1) := by decide +kernel
theorem dX1_define_6 : decode cX1_define 6 = .ok (.bipush 32, 2) := by decide +kernel
theorem dX1_define_8 : decode cX1_define 8 = .ok (.if_icmp .le 13, 3) := by decide +kernel
theorem dX1_define_11 : decode cX1_define 11 = .ok (.new 28, 3) := by decide +kernel
theorem dX1_define_14 : decode cX1_define 14 = .ok (.dup, 1) := by decide +kernel
theorem dX1_define_15 : decode cX1_define 15 = .ok (.ldc 30, 2) := by decide +kernel
theorem dX1_define_17 : decode cX1_define 17 = .ok (.invokespecial 32, 3) := by decide +kernel
theorem dX1_define_20 : decode cX1_define 20 = .ok (.athrow, 1) := by decide +kernel
theorem dX1_define_21 : decode cX1_define 21 = .ok (.iload_n 1, 1) := by decide +kernel
theorem dX1_define_22 : decode cX1_define 22 = .ok (.iload_n 2, 1) := by decide +kernel
theorem dX1_define_23 : decode cX1_define 23 = .ok (.invokestatic 35, 3) := by decide +kernel
theorem dX1_define_26 : decode cX1_define 26 = .ok (.iload_n 1, 1) := by decide +kernel
theorem dX1_define_27 : decode cX1_define 27 = .ok (.iload_n 3, 1) := by decide +kernel
theorem dX1_define_28 : decode cX1_define 28 = .ok (.invokestatic 35, 3) := by decide +kernel
theorem dX1_define_31 : decode cX1_define 31 = .ok (.iload_n 1, 1) := by decide +kernel
theorem dX1_define_32 : decode cX1_define 32 = .ok (.iload 6, 2) := by decide +kernel
theorem dX1_define_34 : decode cX1_define 34 = .ok (.invokestatic 35, 3) := by decide +kernel
theorem dX1_define_37 : decode cX1_define 37 = .ok (.aload_n 0, 1) := by decide +kernel
theorem dX1_define_38 : decode cX1_define 38 = .ok (.getfield 15, 3) := by decide +kernel
theorem dX1_define_41 : decode cX1_define 41 = .ok (.aload_n 0, 1) := by decide +kernel
theorem dX1_define_42 : decode cX1_define 42 = .ok (.getfield 11, 3) := by decide +kernel
theorem dX1_define_45 : decode cX1_define 45 = .ok (.arraylength, 1) := by decide +kernel
theorem dX1_define_46 : decode cX1_define 46 = .ok (.if_icmp .lt 13, 3) := by decide +kernel
theorem dX1_define_49 : decode cX1_define 49 = .ok (.new 39, 3) := by decide +kernel
theorem dX1_define_52 : decode cX1_define 52 = .ok (.dup, 1) := by decide +kernel
theorem dX1_define_53 : decode cX1_define 53 = .ok (.ldc 41, 2) := by decide +kernel
theorem dX1_define_55 : decode cX1_define 55 = .ok (.invokespecial 43, 3) := by decide +kernel
theorem dX1_define_58 : decode cX1_define 58 = .ok (.athrow, 1) := by decide +kernel
theorem dX1_define_59 : decode cX1_define 59 = .ok (.aload_n 0, 1) := by decide +kernel
theorem dX1_define_60 : decode cX1_define 60 = .ok (.getfield 15, 3) := by decide +kernel
theorem dX1_define_63 : decode cX1_define 63 = .ok (.istore 7, 2) := by decide +kernel
theorem dX1_define_65 : decode cX1_define 65 = .ok (.aload_n 0, 1) := by decide +kernel
theorem dX1_define_66 : decode cX1_define 66 = .ok (.getfield 11, 3) := by decide +kernel
theorem dX1_define_69 : decode cX1_define 69 = .ok (.iload 7, 2) := by decide +kernel
theorem dX1_define_71 : decode cX1_define 71 = .ok (.new 9, 3) := by decide +kernel
theorem dX1_define_74 : decode cX1_define 74 = .ok (.dup, 1) := by decide +kernel
theorem dX1_define_75 : decode cX1_define 75 = .ok (.iload_n 1, 1) := by decide +kernel
theorem dX1_define_76 : decode cX1_define 76 = .ok (.iload_n 2, 1) := by decide +kernel
theorem dX1_define_77 : decode cX1_define 77 = .ok (.iload_n 3, 1) := by decide +kernel
theorem dX1_define_78 : decode cX1_define 78 = .ok (.iload 4, 2) := by decide +kernel
theorem dX1_define_80 : decode cX1_define 80 = .ok (.iload 5, 2) := by decide +kernel
theorem dX1_define_82 : decode cX1_define 82 = .ok (.iload 6, 2) := by decide +kernel
theorem dX1_define_84 : decode cX1_define 84 = .ok (.invokespecial 44, 3) := by decide +kernel
theorem dX1_define_87 : decode cX1_define 87 = .ok (.aastore, 1) := by decide +kernel
theorem dX1_define_88 : decode cX1_define 88 = .ok (.aload_n 0, 1) := by decide +kernel
theorem dX1_define_89 : decode cX1_define 89 = .ok (.iload 7, 2) := by decide +kernel
theorem dX1_define_91 : decode cX1_define 91 = .ok (.iconst 1, 1) := by decide +kernel
theorem dX1_define_92 : decode cX1_define 92 = .ok (.iadd, 1) := by decide +kernel
theorem dX1_define_93 : decode cX1_define 93 = .ok (.putfield 15, 3) := by decide +kernel
theorem dX1_define_96 : decode cX1_define 96 = .ok (.iload 7, 2) := by decide +kernel
theorem dX1_define_98 : decode cX1_define 98 = .ok (.ireturn, 1) := by decide +kernel
set_option maxRecDepth 20000 in
theorem ggX1_append_X1_requireRow : GoodIn wsX1_append wsX1_requireRow := goodIn_ca (goodIn_r _ [6, 7, 8] (by decide +kernel) (by decide +kernel)) (goodIn_sub (fun _ h => List.mem_cons_of_mem _ (List.mem_append_left _ (List.mem_append_left _ (List.mem_append_right _ h)))) (by decide +kernel))
set_option maxRecDepth 20000 in
theorem gX1_append_X1_requireRow : GoodIn wsX1_append (va_wsS RX1 80 yX1_requireRow wsX1_requireRow) := goodIn_app (goodIn_of _ (by decide +kernel)) ggX1_append_X1_requireRow
set_option maxRecDepth 20000 in
theorem ggX1_append_X1_requireByte : GoodIn wsX1_append wsX1_requireByte := goodIn_ca (goodIn_r _ [11, 12, 13] (by decide +kernel) (by decide +kernel)) (goodIn_sub (fun _ h => List.mem_cons_of_mem _ (List.mem_append_left _ (List.mem_append_right _ h))) (by decide +kernel))
set_option maxRecDepth 20000 in
theorem gX1_append_X1_requireByte : GoodIn wsX1_append (va_wsS RX1 84 yX1_requireByte wsX1_requireByte) := goodIn_app (goodIn_of _ (by decide +kernel)) ggX1_append_X1_requireByte
set_option maxRecDepth 20000 in
theorem ggX1_append_X1_requireRoom : GoodIn wsX1_append wsX1_requireRoom := goodIn_ca (goodIn_r _ [17, 18, 19, 2, 20, 21, 22, 23] (by decide +kernel) (by decide +kernel)) (goodIn_sub (fun _ h => List.mem_cons_of_mem _ (List.mem_append_right _ h)) (by decide +kernel))
set_option maxRecDepth 20000 in
theorem gX1_append_X1_requireRoom : GoodIn wsX1_append (wsV RX1 87 RX1 yX1_requireRoom wsX1_requireRoom) := goodIn_app (goodIn_of _ (by decide +kernel)) ggX1_append_X1_requireRoom
theorem dX1_append_0 : decode cX1_append 0 = .ok (.iload_n 1, 1) := by decide +kernel
theorem dX1_append_1 : decode cX1_append 1 = .ok (.invokestatic 80, 3) := by decide +kernel
theorem dX1_append_4 : decode cX1_append 4 = .ok (.iload_n 2, 1) := by decide +kernel
theorem dX1_append_5 : decode cX1_append 5 = .ok (.invokestatic 84, 3) := by decide +kernel
theorem dX1_append_8 : decode cX1_append 8 = .ok (.aload_n 0, 1) := by decide +kernel
theorem dX1_append_9 : decode cX1_append 9 = .ok (.iload_n 1, 1) := by decide +kernel
theorem dX1_append_10 : decode cX1_append 10 = .ok (.iconst 1, 1) := by decide +kernel
theorem dX1_append_11 : decode cX1_append 11 = .ok (.invokevirtual 87, 3) := by decide +kernel
theorem dX1_append_14 : decode cX1_append 14 = .ok (.aload_n 0, 1) := by decide +kernel
theorem dX1_append_15 : decode cX1_append 15 = .ok (.getfield 21, 3) := by decide +kernel
theorem dX1_append_18 : decode cX1_append 18 = .ok (.iload_n 1, 1) := by decide +kernel
theorem dX1_append_19 : decode cX1_append 19 = .ok (.aaload, 1) := by decide +kernel
theorem dX1_append_20 : decode cX1_append 20 = .ok (.aload_n 0, 1) := by decide +kernel
theorem dX1_append_21 : decode cX1_append 21 = .ok (.getfield 24, 3) := by decide +kernel
theorem dX1_append_24 : decode cX1_append 24 = .ok (.iload_n 1, 1) := by decide +kernel
theorem dX1_append_25 : decode cX1_append 25 = .ok (.iaload, 1) := by decide +kernel
theorem dX1_append_26 : decode cX1_append 26 = .ok (.iload_n 2, 1) := by decide +kernel
theorem dX1_append_27 : decode cX1_append 27 = .ok (.iastore, 1) := by decide +kernel
theorem dX1_append_28 : decode cX1_append 28 = .ok (.aload_n 0, 1) := by decide +kernel
theorem dX1_append_29 : decode cX1_append 29 = .ok (.getfield 24, 3) := by decide +kernel
theorem dX1_append_32 : decode cX1_append 32 = .ok (.iload_n 1, 1) := by decide +kernel
theorem dX1_append_33 : decode cX1_append 33 = .ok (.dup2, 1) := by decide +kernel
theorem dX1_append_34 : decode cX1_append 34 = .ok (.iaload, 1) := by decide +kernel
theorem dX1_append_35 : decode cX1_append 35 = .ok (.iconst 1, 1) := by decide +kernel
theorem dX1_append_36 : decode cX1_append 36 = .ok (.iadd, 1) := by decide +kernel
theorem dX1_append_37 : decode cX1_append 37 = .ok (.iastore, 1) := by decide +kernel
theorem dX1_append_38 : decode cX1_append 38 = .ok (.aload_n 0, 1) := by decide +kernel
theorem dX1_append_39 : decode cX1_append 39 = .ok (.getfield 24, 3) := by decide +kernel
theorem dX1_append_42 : decode cX1_append 42 = .ok (.iload_n 1, 1) := by decide +kernel
theorem dX1_append_43 : decode cX1_append 43 = .ok (.iaload, 1) := by decide +kernel
theorem dX1_append_44 : decode cX1_append 44 = .ok (.ireturn, 1) := by decide +kernel
set_option maxRecDepth 20000 in
theorem ggX1_setByte_X1_requireRow : GoodIn wsX1_setByte wsX1_requireRow := goodIn_ca (goodIn_r _ [5, 6, 7] (by decide +kernel) (by decide +kernel)) (goodIn_sub (fun _ h => List.mem_cons_of_mem _ (List.mem_append_left _ (List.mem_append_right _ h))) (by decide +kernel))
set_option maxRecDepth 20000 in
theorem gX1_setByte_X1_requireRow : GoodIn wsX1_setByte (va_wsS RX1 80 yX1_requireRow wsX1_requireRow) := goodIn_app (goodIn_of _ (by decide +kernel)) ggX1_setByte_X1_requireRow
set_option maxRecDepth 20000 in
theorem ggX1_setByte_X1_requireIndex : GoodIn wsX1_setByte wsX1_requireIndex := goodIn_ca (goodIn_r _ [11, 6, 7, 12, 18, 19, 20, 21] (by decide +kernel) (by decide +kernel)) (goodIn_sub (fun _ h => List.mem_cons_of_mem _ (List.mem_append_left _ (List.mem_append_right _ h))) (by decide +kernel))
set_option maxRecDepth 20000 in
theorem gX1_setByte_X1_requireIndex : GoodIn wsX1_setByte (wsV RX1 92 RX1 yX1_requireIndex wsX1_requireIndex) := goodIn_app (goodIn_of _ (by decide +kernel)) ggX1_setByte_X1_requireIndex
set_option maxRecDepth 20000 in
theorem ggX1_setByte_X1_requireByte : GoodIn wsX1_setByte wsX1_requireByte := goodIn_ca (goodIn_r _ [15, 16, 17] (by decide +kernel) (by decide +kernel)) (goodIn_sub (fun _ h => List.mem_cons_of_mem _ (List.mem_append_right _ h)) (by decide +kernel))
set_option maxRecDepth 20000 in
theorem gX1_setByte_X1_requireByte : GoodIn wsX1_setByte (va_wsS RX1 84 yX1_requireByte wsX1_requireByte) := goodIn_app (goodIn_of _ (by decide +kernel)) ggX1_setByte_X1_requireByte
theorem dX1_setByte_0 : decode cX1_setByte 0 = .ok (.iload_n 1, 1) := by decide +kernel
theorem dX1_setByte_1 : decode cX1_setByte 1 = .ok (.invokestatic 80, 3) := by decide +kernel
theorem dX1_setByte_4 : decode cX1_setByte 4 = .ok (.aload_n 0, 1) := by decide +kernel
theorem dX1_setByte_5 : decode cX1_setByte 5 = .ok (.iload_n 1, 1) := by decide +kernel
theorem dX1_setByte_6 : decode cX1_setByte 6 = .ok (.iload_n 2, 1) := by decide +kernel
theorem dX1_setByte_7 : decode cX1_setByte 7 = .ok (.invokevirtual 92, 3) := by decide +kernel
theorem dX1_setByte_10 : decode cX1_setByte 10 = .ok (.iload_n 3, 1) := by decide +kernel
theorem dX1_setByte_11 : decode cX1_setByte 11 = .ok (.invokestatic 84, 3) := by decide +kernel
theorem dX1_setByte_14 : decode cX1_setByte 14 = .ok (.aload_n 0, 1) := by decide +kernel
theorem dX1_setByte_15 : decode cX1_setByte 15 = .ok (.getfield 21, 3) := by decide +kernel
theorem dX1_setByte_18 : decode cX1_setByte 18 = .ok (.iload_n 1, 1) := by decide +kernel
theorem dX1_setByte_19 : decode cX1_setByte 19 = .ok (.aaload, 1) := by decide +kernel
theorem dX1_setByte_20 : decode cX1_setByte 20 = .ok (.iload_n 2, 1) := by decide +kernel
theorem dX1_setByte_21 : decode cX1_setByte 21 = .ok (.iaload, 1) := by decide +kernel
theorem dX1_setByte_22 : decode cX1_setByte 22 = .ok (.istore 4, 2) := by decide +kernel
theorem dX1_setByte_24 : decode cX1_setByte 24 = .ok (.aload_n 0, 1) := by decide +kernel
theorem dX1_setByte_25 : decode cX1_setByte 25 = .ok (.getfield 21, 3) := by decide +kernel
theorem dX1_setByte_28 : decode cX1_setByte 28 = .ok (.iload_n 1, 1) := by decide +kernel
theorem dX1_setByte_29 : decode cX1_setByte 29 = .ok (.aaload, 1) := by decide +kernel
theorem dX1_setByte_30 : decode cX1_setByte 30 = .ok (.iload_n 2, 1) := by decide +kernel
theorem dX1_setByte_31 : decode cX1_setByte 31 = .ok (.iload_n 3, 1) := by decide +kernel
theorem dX1_setByte_32 : decode cX1_setByte 32 = .ok (.iastore, 1) := by decide +kernel
theorem dX1_setByte_33 : decode cX1_setByte 33 = .ok (.iload 4, 2) := by decide +kernel
theorem dX1_setByte_35 : decode cX1_setByte 35 = .ok (.ireturn, 1) := by decide +kernel
set_option maxRecDepth 20000 in
theorem ggX1_byteAt_X1_requireRow : GoodIn wsX1_byteAt wsX1_requireRow := goodIn_ca (goodIn_r _ [5, 6, 7] (by decide +kernel) (by decide +kernel)) (goodIn_sub (fun _ h => List.mem_cons_of_mem _ (List.mem_append_right _ h)) (by decide +kernel))
set_option maxRecDepth 20000 in
theorem gX1_byteAt_X1_requireRow : GoodIn wsX1_byteAt (va_wsS RX1 80 yX1_requireRow wsX1_requireRow) := goodIn_app (goodIn_of _ (by decide +kernel)) ggX1_byteAt_X1_requireRow
set_option maxRecDepth 20000 in
theorem ggX1_byteAt_X1_requireIndex : GoodIn wsX1_byteAt wsX1_requireIndex := goodIn_ca (goodIn_r _ [11, 6, 7, 12, 13, 14, 15, 16] (by decide +kernel) (by decide +kernel)) (goodIn_sub (fun _ h => List.mem_cons_of_mem _ (List.mem_append_right _ h)) (by decide +kernel))
set_option maxRecDepth 20000 in
theorem gX1_byteAt_X1_requireIndex : GoodIn wsX1_byteAt (wsV RX1 92 RX1 yX1_requireIndex wsX1_requireIndex) := goodIn_app (goodIn_of _ (by decide +kernel)) ggX1_byteAt_X1_requireIndex
theorem dX1_byteAt_0 : decode cX1_byteAt 0 = .ok (.iload_n 1, 1) := by decide +kernel
theorem dX1_byteAt_1 : decode cX1_byteAt 1 = .ok (.invokestatic 80, 3) := by decide +kernel
theorem dX1_byteAt_4 : decode cX1_byteAt 4 = .ok (.aload_n 0, 1) := by decide +kernel
theorem dX1_byteAt_5 : decode cX1_byteAt 5 = .ok (.iload_n 1, 1) := by decide +kernel
theorem dX1_byteAt_6 : decode cX1_byteAt 6 = .ok (.iload_n 2, 1) := by decide +kernel
theorem dX1_byteAt_7 : decode cX1_byteAt 7 = .ok (.invokevirtual 92, 3) := by decide +kernel
theorem dX1_byteAt_10 : decode cX1_byteAt 10 = .ok (.aload_n 0, 1) := by decide +kernel
theorem dX1_byteAt_11 : decode cX1_byteAt 11 = .ok (.getfield 21, 3) := by decide +kernel
theorem dX1_byteAt_14 : decode cX1_byteAt 14 = .ok (.iload_n 1, 1) := by decide +kernel
theorem dX1_byteAt_15 : decode cX1_byteAt 15 = .ok (.aaload, 1) := by decide +kernel
theorem dX1_byteAt_16 : decode cX1_byteAt 16 = .ok (.iload_n 2, 1) := by decide +kernel
theorem dX1_byteAt_17 : decode cX1_byteAt 17 = .ok (.iaload, 1) := by decide +kernel
theorem dX1_byteAt_18 : decode cX1_byteAt 18 = .ok (.ireturn, 1) := by decide +kernel
set_option maxRecDepth 20000 in
theorem ggX1_sum_X1_findModel : GoodIn wsX1_sum wsX1_findModel := goodIn_ca (goodIn_r _ [6, 7, 8, 9, 53, 54, 55, 56] (by decide +kernel) (by decide +kernel)) (goodIn_sub (fun _ h => List.mem_cons_of_mem _ (List.mem_append_right _ h)) (by decide +kernel))
set_option maxRecDepth 20000 in
theorem gX1_sum_X1_findModel : GoodIn wsX1_sum (wsV RX1 47 RX1 yX1_findModel wsX1_findModel) := goodIn_app (goodIn_of _ (by decide +kernel)) ggX1_sum_X1_findModel
set_option maxRecDepth 20000 in
theorem ggX1_sum_X1_requireRow : GoodIn wsX1_sum wsX1_requireRow := goodIn_ca (goodIn_r _ [12, 7, 8] (by decide +kernel) (by decide +kernel)) (goodIn_sub (fun _ h => List.mem_cons_of_mem _ (List.mem_append_right _ h)) (by decide +kernel))
set_option maxRecDepth 20000 in
theorem gX1_sum_X1_requireRow : GoodIn wsX1_sum (va_wsS RX1 80 yX1_requireRow wsX1_requireRow) := goodIn_app (goodIn_of _ (by decide +kernel)) ggX1_sum_X1_requireRow
set_option maxRecDepth 20000 in
theorem ggX1_sum_X1_partSum : GoodIn wsX1_sum wsX1_partSum := goodIn_r _ [16, 17, 18, 19, 20, 21, 22, 23, 24, 25, 26, 27, 28, 29, 5, 30, 31, 32, 33, 34, 35, 36, 37, 38, 39, 40, 41, 42, 43, 44, 45, 46, 47, 48, 49, 50, 51, 52, 57, 58, 59, 60, 61, 62, 63, 64, 53, 54, 55, 56] (by decide +kernel) (by decide +kernel)
set_option maxRecDepth 20000 in
theorem gX1_sum_X1_partSum : GoodIn wsX1_sum (wsV RX1 97 RX1 yX1_partSum wsX1_partSum) := goodIn_app (goodIn_of _ (by decide +kernel)) ggX1_sum_X1_partSum
theorem dX1_sum_0 : decode cX1_sum 0 = .ok (.aload_n 0, 1) := by decide +kernel
theorem dX1_sum_1 : decode cX1_sum 1 = .ok (.iload_n 1, 1) := by decide +kernel
theorem dX1_sum_2 : decode cX1_sum 2 = .ok (.invokevirtual 47, 3) := by decide +kernel
theorem dX1_sum_5 : decode cX1_sum 5 = .ok (.astore_n 3, 1) := by decide +kernel
theorem dX1_sum_6 : decode cX1_sum 6 = .ok (.iload_n 2, 1) := by decide +kernel
theorem dX1_sum_7 : decode cX1_sum 7 = .ok (.invokestatic 80, 3) := by decide +kernel
theorem dX1_sum_10 : decode cX1_sum 10 = .ok (.aload_n 0, 1) := by decide +kernel
theorem dX1_sum_11 : decode cX1_sum 11 = .ok (.aload_n 3, 1) := by decide +kernel
theorem dX1_sum_12 : decode cX1_sum 12 = .ok (.iload_n 2, 1) := by decide +kernel
theorem dX1_sum_13 : decode cX1_sum 13 = .ok (.iconst 0, 1) := by decide +kernel
theorem dX1_sum_14 : decode cX1_sum 14 = .ok (.aload_n 0, 1) := by decide +kernel
theorem dX1_sum_15 : decode cX1_sum 15 = .ok (.getfield 24, 3) := by decide +kernel
theorem dX1_sum_18 : decode cX1_sum 18 = .ok (.iload_n 2, 1) := by decide +kernel
theorem dX1_sum_19 : decode cX1_sum 19 = .ok (.iaload, 1) := by decide +kernel
theorem dX1_sum_20 : decode cX1_sum 20 = .ok (.invokevirtual 97, 3) := by decide +kernel
theorem dX1_sum_23 : decode cX1_sum 23 = .ok (.ireturn, 1) := by decide +kernel
set_option maxRecDepth 20000 in
theorem ggX1_sumOfPart_X1_findModel : GoodIn wsX1_sumOfPart wsX1_findModel := goodIn_ca (goodIn_r _ [8, 1, 2, 9, 53, 54, 55, 56] (by decide +kernel) (by decide +kernel)) (goodIn_sub (fun _ h => List.mem_cons_of_mem _ (List.mem_append_right _ h)) (by decide +kernel))
set_option maxRecDepth 20000 in
theorem gX1_sumOfPart_X1_findModel : GoodIn wsX1_sumOfPart (wsV RX1 47 RX1 yX1_findModel wsX1_findModel) := goodIn_app (goodIn_of _ (by decide +kernel)) ggX1_sumOfPart_X1_findModel
set_option maxRecDepth 20000 in
theorem ggX1_sumOfPart_X1_requireRow : GoodIn wsX1_sumOfPart wsX1_requireRow := goodIn_ca (goodIn_r _ [12, 1, 2] (by decide +kernel) (by decide +kernel)) (goodIn_sub (fun _ h => List.mem_cons_of_mem _ (List.mem_append_right _ h)) (by decide +kernel))
set_option maxRecDepth 20000 in
theorem gX1_sumOfPart_X1_requireRow : GoodIn wsX1_sumOfPart (va_wsS RX1 80 yX1_requireRow wsX1_requireRow) := goodIn_app (goodIn_of _ (by decide +kernel)) ggX1_sumOfPart_X1_requireRow
set_option maxRecDepth 20000 in
theorem ggX1_sumOfPart_X1_partSum : GoodIn wsX1_sumOfPart wsX1_partSum := goodIn_r _ [16, 17, 18, 19, 20, 21, 22, 23, 24, 25, 26, 27, 28, 29, 7, 30, 31, 32, 33, 34, 35, 36, 37, 38, 39, 40, 41, 42, 43, 44, 45, 46, 47, 48, 49, 50, 51, 52, 57, 58, 59, 60, 61, 62, 63, 64, 53, 54, 55, 56] (by decide +kernel) (by decide +kernel)
set_option maxRecDepth 20000 in
theorem gX1_sumOfPart_X1_partSum : GoodIn wsX1_sumOfPart (wsV RX1 97 RX1 yX1_partSum wsX1_partSum) := goodIn_app (goodIn_of _ (by decide +kernel)) ggX1_sumOfPart_X1_partSum
theorem dX1_sumOfPart_0 : decode cX1_sumOfPart 0 = .ok (.aload_n 0, 1) := by decide +kernel
theorem dX1_sumOfPart_1 : decode cX1_sumOfPart 1 = .ok (.iload_n 1, 1) := by decide +kernel
theorem dX1_sumOfPart_2 : decode cX1_sumOfPart 2 = .ok (.invokevirtual 47, 3) := by decide +kernel
theorem dX1_sumOfPart_5 : decode cX1_sumOfPart 5 = .ok (.astore 5, 2) := by decide +kernel
theorem dX1_sumOfPart_7 : decode cX1_sumOfPart 7 = .ok (.iload_n 2, 1) := by decide +kernel
theorem dX1_sumOfPart_8 : decode cX1_sumOfPart 8 = .ok (.invokestatic 80, 3) := by decide +kernel
theorem dX1_sumOfPart_11 : decode cX1_sumOfPart 11 = .ok (.iload_n 3, 1) := by decide +kernel
theorem dX1_sumOfPart_12 : decode cX1_sumOfPart 12 = .ok (.ifCond .lt 20, 3) := by decide +kernel
theorem dX1_sumOfPart_15 : decode cX1_sumOfPart 15 = .ok (.iload_n 3, 1) := by decide +kernel
theorem dX1_sumOfPart_16 : decode cX1_sumOfPart 16 = .ok (.iload 4, 2) := by decide +kernel
theorem dX1_sumOfPart_18 : decode cX1_sumOfPart 18 = .ok (.if_icmp .gt 14, 3) := by decide +kernel
theorem dX1_sumOfPart_21 : decode cX1_sumOfPart 21 = .ok (.iload 4, 2) := by decide +kernel
theorem dX1_sumOfPart_23 : decode cX1_sumOfPart 23 = .ok (.aload_n 0, 1) := by decide +kernel
theorem dX1_sumOfPart_24 : decode cX1_sumOfPart 24 = .ok (.getfield 24, 3) := by decide +kernel
theorem dX1_sumOfPart_27 : decode cX1_sumOfPart 27 = .ok (.iload_n 2, 1) := by decide +kernel
theorem dX1_sumOfPart_28 : decode cX1_sumOfPart 28 = .ok (.iaload, 1) := by decide +kernel
theorem dX1_sumOfPart_29 : decode cX1_sumOfPart 29 = .ok (.if_icmp .le 13, 3) := by decide +kernel
theorem dX1_sumOfPart_32 : decode cX1_sumOfPart 32 = .ok (.new 101, 3) := by decide +kernel
theorem dX1_sumOfPart_35 : decode cX1_sumOfPart 35 = .ok (.dup, 1) := by decide +kernel
theorem dX1_sumOfPart_36 : decode cX1_sumOfPart 36 = .ok (.ldc 103, 2) := by decide +kernel
theorem dX1_sumOfPart_38 : decode cX1_sumOfPart 38 = .ok (.invokespecial 105, 3) := by decide +kernel
theorem dX1_sumOfPart_41 : decode cX1_sumOfPart 41 = .ok (.athrow, 1) := by decide +kernel
theorem dX1_sumOfPart_42 : decode cX1_sumOfPart 42 = .ok (.aload_n 0, 1) := by decide +kernel
theorem dX1_sumOfPart_43 : decode cX1_sumOfPart 43 = .ok (.aload 5, 2) := by decide +kernel
theorem dX1_sumOfPart_45 : decode cX1_sumOfPart 45 = .ok (.iload_n 2, 1) := by decide +kernel
theorem dX1_sumOfPart_46 : decode cX1_sumOfPart 46 = .ok (.iload_n 3, 1) := by decide +kernel
theorem dX1_sumOfPart_47 : decode cX1_sumOfPart 47 = .ok (.iload 4, 2) := by decide +kernel
theorem dX1_sumOfPart_49 : decode cX1_sumOfPart 49 = .ok (.invokevirtual 97, 3) := by decide +kernel
theorem dX1_sumOfPart_52 : decode cX1_sumOfPart 52 = .ok (.ireturn, 1) := by decide +kernel
set_option maxRecDepth 20000 in
theorem ggX1_remainder_X1_findModel : GoodIn wsX1_remainder wsX1_findModel := goodIn_ca (goodIn_r _ [7, 8, 9, 10, 26, 27, 28, 29] (by decide +kernel) (by decide +kernel)) (goodIn_sub (fun _ h => List.mem_cons_of_mem _ (List.mem_append_right _ h)) (by decide +kernel))
set_option maxRecDepth 20000 in
theorem gX1_remainder_X1_findModel : GoodIn wsX1_remainder (wsV RX1 47 RX1 yX1_findModel wsX1_findModel) := goodIn_app (goodIn_of _ (by decide +kernel)) ggX1_remainder_X1_findModel
set_option maxRecDepth 20000 in
theorem ggX1_remainder_X1_requireRow : GoodIn wsX1_remainder wsX1_requireRow := goodIn_ca (goodIn_r _ [13, 8, 9] (by decide +kernel) (by decide +kernel)) (goodIn_sub (fun _ h => List.mem_cons_of_mem _ (List.mem_append_right _ h)) (by decide +kernel))
set_option maxRecDepth 20000 in
theorem gX1_remainder_X1_requireRow : GoodIn wsX1_remainder (va_wsS RX1 80 yX1_requireRow wsX1_requireRow) := goodIn_app (goodIn_of _ (by decide +kernel)) ggX1_remainder_X1_requireRow
set_option maxRecDepth 20000 in
theorem ggX1_remainder_X0_divideByte : GoodIn wsX1_remainder wsX0_divideByte := goodIn_r _ [18, 19, 20, 21, 17, 22, 23, 24, 25, 30, 31, 32, 33, 34, 35, 36, 37] (by decide +kernel) (by decide +kernel)
set_option maxRecDepth 20000 in
theorem gX1_remainder_X0_divideByte : GoodIn wsX1_remainder (wsV RX1 106 RX0 yX0_divideByte wsX0_divideByte) := goodIn_app (goodIn_of _ (by decide +kernel)) ggX1_remainder_X0_divideByte
theorem dX1_remainder_0 : decode cX1_remainder 0 = .ok (.aload_n 0, 1) := by decide +kernel
theorem dX1_remainder_1 : decode cX1_remainder 1 = .ok (.iload_n 1, 1) := by decide +kernel
theorem dX1_remainder_2 : decode cX1_remainder 2 = .ok (.invokevirtual 47, 3) := by decide +kernel
theorem dX1_remainder_5 : decode cX1_remainder 5 = .ok (.astore_n 3, 1) := by decide +kernel
theorem dX1_remainder_6 : decode cX1_remainder 6 = .ok (.iload_n 2, 1) := by decide +kernel
theorem dX1_remainder_7 : decode cX1_remainder 7 = .ok (.invokestatic 80, 3) := by decide +kernel
theorem dX1_remainder_10 : decode cX1_remainder 10 = .ok (.aload_n 0, 1) := by decide +kernel
theorem dX1_remainder_11 : decode cX1_remainder 11 = .ok (.getfield 24, 3) := by decide +kernel
theorem dX1_remainder_14 : decode cX1_remainder 14 = .ok (.iload_n 2, 1) := by decide +kernel
theorem dX1_remainder_15 : decode cX1_remainder 15 = .ok (.iaload, 1) := by decide +kernel
theorem dX1_remainder_16 : decode cX1_remainder 16 = .ok (.istore 4, 2) := by decide +kernel
theorem dX1_remainder_18 : decode cX1_remainder 18 = .ok (.iconst 0, 1) := by decide +kernel
theorem dX1_remainder_19 : decode cX1_remainder 19 = .ok (.istore 5, 2) := by decide +kernel
theorem dX1_remainder_21 : decode cX1_remainder 21 = .ok (.iconst 0, 1) := by decide +kernel
theorem dX1_remainder_22 : decode cX1_remainder 22 = .ok (.istore 6, 2) := by decide +kernel
theorem dX1_remainder_24 : decode cX1_remainder 24 = .ok (.iload 6, 2) := by decide +kernel
theorem dX1_remainder_26 : decode cX1_remainder 26 = .ok (.iload 4, 2) := by decide +kernel
theorem dX1_remainder_28 : decode cX1_remainder 28 = .ok (.if_icmp .ge 26, 3) := by decide +kernel
theorem dX1_remainder_31 : decode cX1_remainder 31 = .ok (.aload_n 3, 1) := by decide +kernel
theorem dX1_remainder_32 : decode cX1_remainder 32 = .ok (.iload 5, 2) := by decide +kernel
theorem dX1_remainder_34 : decode cX1_remainder 34 = .ok (.aload_n 0, 1) := by decide +kernel
theorem dX1_remainder_35 : decode cX1_remainder 35 = .ok (.getfield 21, 3) := by decide +kernel
theorem dX1_remainder_38 : decode cX1_remainder 38 = .ok (.iload_n 2, 1) := by decide +kernel
theorem dX1_remainder_39 : decode cX1_remainder 39 = .ok (.aaload, 1) := by decide +kernel
theorem dX1_remainder_40 : decode cX1_remainder 40 = .ok (.iload 6, 2) := by decide +kernel
theorem dX1_remainder_42 : decode cX1_remainder 42 = .ok (.iaload, 1) := by decide +kernel
theorem dX1_remainder_43 : decode cX1_remainder 43 = .ok (.invokevirtual 106, 3) := by decide +kernel
theorem dX1_remainder_46 : decode cX1_remainder 46 = .ok (.istore 5, 2) := by decide +kernel
theorem dX1_remainder_48 : decode cX1_remainder 48 = .ok (.iinc 6 1, 3) := by decide +kernel
theorem dX1_remainder_51 : decode cX1_remainder 51 = .ok (.goto (-27), 3) := by decide +kernel
theorem dX1_remainder_54 : decode cX1_remainder 54 = .ok (.iload 5, 2) := by decide +kernel
theorem dX1_remainder_56 : decode cX1_remainder 56 = .ok (.ireturn, 1) := by decide +kernel
theorem dX1_findModel_0 : decode cX1_findModel 0 = .ok (.iload_n 1, 1) := by decide +kernel
theorem dX1_findModel_1 : decode cX1_findModel 1 = .ok (.ifCond .lt 21, 3) := by decide +kernel
theorem dX1_findModel_4 : decode cX1_findModel 4 = .ok (.iload_n 1, 1) := by decide +kernel
theorem dX1_findModel_5 : decode cX1_findModel 5 = .ok (.aload_n 0, 1) := by decide +kernel
theorem dX1_findModel_6 : decode cX1_findModel 6 = .ok (.getfield 11, 3) := by decide +kernel
theorem dX1_findModel_9 : decode cX1_findModel 9 = .ok (.arraylength, 1) := by decide +kernel
theorem dX1_findModel_10 : decode cX1_findModel 10 = .ok (.if_icmp .ge 12, 3) := by decide +kernel
theorem dX1_findModel_13 : decode cX1_findModel 13 = .ok (.aload_n 0, 1) := by decide +kernel
theorem dX1_findModel_14 : decode cX1_findModel 14 = .ok (.getfield 11, 3) := by decide +kernel
theorem dX1_findModel_17 : decode cX1_findModel 17 = .ok (.iload_n 1, 1) := by decide +kernel
theorem dX1_findModel_18 : decode cX1_findModel 18 = .ok (.aaload, 1) := by decide +kernel
theorem dX1_findModel_19 : decode cX1_findModel 19 = .ok (.ifnonnull 13, 3) := by decide +kernel
theorem dX1_findModel_22 : decode cX1_findModel 22 = .ok (.new 101, 3) := by decide +kernel
theorem dX1_findModel_25 : decode cX1_findModel 25 = .ok (.dup, 1) := by decide +kernel
theorem dX1_findModel_26 : decode cX1_findModel 26 = .ok (.ldc 147, 2) := by decide +kernel
theorem dX1_findModel_28 : decode cX1_findModel 28 = .ok (.invokespecial 105, 3) := by decide +kernel
theorem dX1_findModel_31 : decode cX1_findModel 31 = .ok (.athrow, 1) := by decide +kernel
theorem dX1_findModel_32 : decode cX1_findModel 32 = .ok (.aload_n 0, 1) := by decide +kernel
theorem dX1_findModel_33 : decode cX1_findModel 33 = .ok (.getfield 11, 3) := by decide +kernel
theorem dX1_findModel_36 : decode cX1_findModel 36 = .ok (.iload_n 1, 1) := by decide +kernel
theorem dX1_findModel_37 : decode cX1_findModel 37 = .ok (.aaload, 1) := by decide +kernel
theorem dX1_findModel_38 : decode cX1_findModel 38 = .ok (.areturn, 1) := by decide +kernel
set_option maxRecDepth 20000 in
theorem ggX1_partSum_X0_takeByte : GoodIn wsX1_partSum wsX0_takeByte := goodIn_r _ [7, 8, 9, 10, 6, 11, 12, 13, 14, 15, 16, 17, 18, 19, 20, 21, 22, 23, 24, 25, 26, 27, 38, 39, 40, 41, 42, 43, 44, 45] (by decide +kernel) (by decide +kernel)
set_option maxRecDepth 20000 in
theorem gX1_partSum_X0_takeByte : GoodIn wsX1_partSum (wsV RX1 54 RX0 yX0_takeByte wsX0_takeByte) := goodIn_app (goodIn_of _ (by decide +kernel)) ggX1_partSum_X0_takeByte
set_option maxRecDepth 20000 in
theorem ggX1_partSum_X0_sumOfRegister : GoodIn wsX1_partSum wsX0_sumOfRegister := goodIn_r _ [31, 32, 33, 34, 35, 6, 36, 37, 20, 13, 14, 15, 38, 39, 40, 41, 42, 43, 44, 45] (by decide +kernel) (by decide +kernel)
set_option maxRecDepth 20000 in
theorem gX1_partSum_X0_sumOfRegister : GoodIn wsX1_partSum (wsV RX1 58 RX0 yX0_sumOfRegister wsX0_sumOfRegister) := goodIn_app (goodIn_of _ (by decide +kernel)) ggX1_partSum_X0_sumOfRegister
theorem dX1_partSum_0 : decode cX1_partSum 0 = .ok (.aload_n 1, 1) := by decide +kernel
theorem dX1_partSum_1 : decode cX1_partSum 1 = .ok (.getfield 51, 3) := by decide +kernel
theorem dX1_partSum_4 : decode cX1_partSum 4 = .ok (.istore 5, 2) := by decide +kernel
theorem dX1_partSum_6 : decode cX1_partSum 6 = .ok (.iload_n 3, 1) := by decide +kernel
theorem dX1_partSum_7 : decode cX1_partSum 7 = .ok (.istore 6, 2) := by decide +kernel
theorem dX1_partSum_9 : decode cX1_partSum 9 = .ok (.iload 6, 2) := by decide +kernel
theorem dX1_partSum_11 : decode cX1_partSum 11 = .ok (.iload 4, 2) := by decide +kernel
theorem dX1_partSum_13 : decode cX1_partSum 13 = .ok (.if_icmp .ge 26, 3) := by decide +kernel
theorem dX1_partSum_16 : decode cX1_partSum 16 = .ok (.aload_n 1, 1) := by decide +kernel
theorem dX1_partSum_17 : decode cX1_partSum 17 = .ok (.iload 5, 2) := by decide +kernel
theorem dX1_partSum_19 : decode cX1_partSum 19 = .ok (.aload_n 0, 1) := by decide +kernel
theorem dX1_partSum_20 : decode cX1_partSum 20 = .ok (.getfield 21, 3) := by decide +kernel
theorem dX1_partSum_23 : decode cX1_partSum 23 = .ok (.iload_n 2, 1) := by decide +kernel
theorem dX1_partSum_24 : decode cX1_partSum 24 = .ok (.aaload, 1) := by decide +kernel
theorem dX1_partSum_25 : decode cX1_partSum 25 = .ok (.iload 6, 2) := by decide +kernel
theorem dX1_partSum_27 : decode cX1_partSum 27 = .ok (.iaload, 1) := by decide +kernel
theorem dX1_partSum_28 : decode cX1_partSum 28 = .ok (.invokevirtual 54, 3) := by decide +kernel
theorem dX1_partSum_31 : decode cX1_partSum 31 = .ok (.istore 5, 2) := by decide +kernel
theorem dX1_partSum_33 : decode cX1_partSum 33 = .ok (.iinc 6 1, 3) := by decide +kernel
theorem dX1_partSum_36 : decode cX1_partSum 36 = .ok (.goto (-27), 3) := by decide +kernel
theorem dX1_partSum_39 : decode cX1_partSum 39 = .ok (.aload_n 1, 1) := by decide +kernel
theorem dX1_partSum_40 : decode cX1_partSum 40 = .ok (.iload 5, 2) := by decide +kernel
theorem dX1_partSum_42 : decode cX1_partSum 42 = .ok (.invokevirtual 58, 3) := by decide +kernel
theorem dX1_partSum_45 : decode cX1_partSum 45 = .ok (.ireturn, 1) := by decide +kernel
theorem dX1_requireRow_0 : decode cX1_requireRow 0 = .ok (.iload_n 0, 1) := by decide +kernel
theorem dX1_requireRow_1 : decode cX1_requireRow 1 = .ok (.ifCond .lt 8, 3) := by decide +kernel
theorem dX1_requireRow_4 : decode cX1_requireRow 4 = .ok (.iload_n 0, 1) := by decide +kernel
theorem dX1_requireRow_5 : decode cX1_requireRow 5 = .ok (.iconst 4, 1) := by decide +kernel
theorem dX1_requireRow_6 : decode cX1_requireRow 6 = .ok (.if_icmp .lt 13, 3) := by decide +kernel
theorem dX1_requireRow_9 : decode cX1_requireRow 9 = .ok (.new 101, 3) := by decide +kernel
theorem dX1_requireRow_12 : decode cX1_requireRow 12 = .ok (.dup, 1) := by decide +kernel
theorem dX1_requireRow_13 : decode cX1_requireRow 13 = .ok (.ldc 149, 2) := by decide +kernel
theorem dX1_requireRow_15 : decode cX1_requireRow 15 = .ok (.invokespecial 105, 3) := by decide +kernel
theorem dX1_requireRow_18 : decode cX1_requireRow 18 = .ok (.athrow, 1) := by decide +kernel
theorem dX1_requireRow_19 : decode cX1_requireRow 19 = .ok (.return_, 1) := by decide +kernel
theorem dX1_requireIndex_0 : decode cX1_requireIndex 0 = .ok (.iload_n 2, 1) := by decide +kernel
theorem dX1_requireIndex_1 : decode cX1_requireIndex 1 = .ok (.ifCond .lt 13, 3) := by decide +kernel
theorem dX1_requireIndex_4 : decode cX1_requireIndex 4 = .ok (.iload_n 2, 1) := by decide +kernel
theorem dX1_requireIndex_5 : decode cX1_requireIndex 5 = .ok (.aload_n 0, 1) := by decide +kernel
theorem dX1_requireIndex_6 : decode cX1_requireIndex 6 = .ok (.getfield 24, 3) := by decide +kernel
theorem dX1_requireIndex_9 : decode cX1_requireIndex 9 = .ok (.iload_n 1, 1) := by decide +kernel
theorem dX1_requireIndex_10 : decode cX1_requireIndex 10 = .ok (.iaload, 1) := by decide +kernel
theorem dX1_requireIndex_11 : decode cX1_requireIndex 11 = .ok (.if_icmp .lt 13, 3) := by decide +kernel
theorem dX1_requireIndex_14 : decode cX1_requireIndex 14 = .ok (.new 101, 3) := by decide +kernel
theorem dX1_requireIndex_17 : decode cX1_requireIndex 17 = .ok (.dup, 1) := by decide +kernel
theorem dX1_requireIndex_18 : decode cX1_requireIndex 18 = .ok (.ldc 151, 2) := by decide +kernel
theorem dX1_requireIndex_20 : decode cX1_requireIndex 20 = .ok (.invokespecial 105, 3) := by decide +kernel
theorem dX1_requireIndex_23 : decode cX1_requireIndex 23 = .ok (.athrow, 1) := by decide +kernel
theorem dX1_requireIndex_24 : decode cX1_requireIndex 24 = .ok (.return_, 1) := by decide +kernel
theorem dX1_requireRoom_0 : decode cX1_requireRoom 0 = .ok (.iload_n 2, 1) := by decide +kernel
theorem dX1_requireRoom_1 : decode cX1_requireRoom 1 = .ok (.sipush 256, 3) := by decide +kernel
theorem dX1_requireRoom_4 : decode cX1_requireRoom 4 = .ok (.aload_n 0, 1) := by decide +kernel
theorem dX1_requireRoom_5 : decode cX1_requireRoom 5 = .ok (.getfield 24, 3) := by decide +kernel
theorem dX1_requireRoom_8 : decode cX1_requireRoom 8 = .ok (.iload_n 1, 1) := by decide +kernel
theorem dX1_requireRoom_9 : decode cX1_requireRoom 9 = .ok (.iaload, 1) := by decide +kernel
theorem dX1_requireRoom_10 : decode cX1_requireRoom 10 = .ok (.isub, 1) := by decide +kernel
theorem dX1_requireRoom_11 : decode cX1_requireRoom 11 = .ok (.if_icmp .le 13, 3) := by decide +kernel
theorem dX1_requireRoom_14 : decode cX1_requireRoom 14 = .ok (.new 39, 3) := by decide +kernel
theorem dX1_requireRoom_17 : decode cX1_requireRoom 17 = .ok (.dup, 1) := by decide +kernel
theorem dX1_requireRoom_18 : decode cX1_requireRoom 18 = .ok (.ldc 153, 2) := by decide +kernel
theorem dX1_requireRoom_20 : decode cX1_requireRoom 20 = .ok (.invokespecial 43, 3) := by decide +kernel
theorem dX1_requireRoom_23 : decode cX1_requireRoom 23 = .ok (.athrow, 1) := by decide +kernel
theorem dX1_requireRoom_24 : decode cX1_requireRoom 24 = .ok (.return_, 1) := by decide +kernel
theorem dX1_requireByte_0 : decode cX1_requireByte 0 = .ok (.iload_n 0, 1) := by decide +kernel
theorem dX1_requireByte_1 : decode cX1_requireByte 1 = .ok (.ifCond .lt 10, 3) := by decide +kernel
theorem dX1_requireByte_4 : decode cX1_requireByte 4 = .ok (.iload_n 0, 1) := by decide +kernel
theorem dX1_requireByte_5 : decode cX1_requireByte 5 = .ok (.sipush 255, 3) := by decide +kernel
theorem dX1_requireByte_8 : decode cX1_requireByte 8 = .ok (.if_icmp .le 13, 3) := by decide +kernel
theorem dX1_requireByte_11 : decode cX1_requireByte 11 = .ok (.new 28, 3) := by decide +kernel
theorem dX1_requireByte_14 : decode cX1_requireByte 14 = .ok (.dup, 1) := by decide +kernel
theorem dX1_requireByte_15 : decode cX1_requireByte 15 = .ok (.ldc 155, 2) := by decide +kernel
theorem dX1_requireByte_17 : decode cX1_requireByte 17 = .ok (.invokespecial 32, 3) := by decide +kernel
theorem dX1_requireByte_20 : decode cX1_requireByte 20 = .ok (.athrow, 1) := by decide +kernel
theorem dX1_requireByte_21 : decode cX1_requireByte 21 = .ok (.return_, 1) := by decide +kernel
theorem dX1_requireNumber_0 : decode cX1_requireNumber 0 = .ok (.iload_n 0, 1) := by decide +kernel
theorem dX1_requireNumber_1 : decode cX1_requireNumber 1 = .ok (.bipush 32, 2) := by decide +kernel
theorem dX1_requireNumber_3 : decode cX1_requireNumber 3 = .ok (.if_icmp .ge 19, 3) := by decide +kernel
theorem dX1_requireNumber_6 : decode cX1_requireNumber 6 = .ok (.iload_n 1, 1) := by decide +kernel
theorem dX1_requireNumber_7 : decode cX1_requireNumber 7 = .ok (.iload_n 0, 1) := by decide +kernel
theorem dX1_requireNumber_8 : decode cX1_requireNumber 8 = .ok (.iushr, 1) := by decide +kernel
theorem dX1_requireNumber_9 : decode cX1_requireNumber 9 = .ok (.ifCond .eq 13, 3) := by decide +kernel
theorem dX1_requireNumber_12 : decode cX1_requireNumber 12 = .ok (.new 28, 3) := by decide +kernel
theorem dX1_requireNumber_15 : decode cX1_requireNumber 15 = .ok (.dup, 1) := by decide +kernel
theorem dX1_requireNumber_16 : decode cX1_requireNumber 16 = .ok (.ldc 159, 2) := by decide +kernel
theorem dX1_requireNumber_18 : decode cX1_requireNumber 18 = .ok (.invokespecial 32, 3) := by decide +kernel
theorem dX1_requireNumber_21 : decode cX1_requireNumber 21 = .ok (.athrow, 1) := by decide +kernel
theorem dX1_requireNumber_22 : decode cX1_requireNumber 22 = .ok (.return_, 1) := by decide +kernel
