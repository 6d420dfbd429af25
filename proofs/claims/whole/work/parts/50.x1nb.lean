theorem dX1_joined_21 : decode cX1_joined 21 = .ok (.iload_n 3, 1) := by decide +kernel
theorem dX1_joined_22 : decode cX1_joined 22 = .ok (.invokestatic 35, 3) := by decide +kernel
theorem dX1_joined_25 : decode cX1_joined 25 = .ok (.iload 4, 2) := by decide +kernel
theorem dX1_joined_27 : decode cX1_joined 27 = .ok (.invokestatic 109, 3) := by decide +kernel
theorem dX1_joined_30 : decode cX1_joined 30 = .ok (.aload 5, 2) := by decide +kernel
theorem dX1_joined_32 : decode cX1_joined 32 = .ok (.iload_n 2, 1) := by decide +kernel
theorem dX1_joined_33 : decode cX1_joined 33 = .ok (.invokevirtual 112, 3) := by decide +kernel
theorem dX1_joined_36 : decode cX1_joined 36 = .ok (.aload 5, 2) := by decide +kernel
theorem dX1_joined_38 : decode cX1_joined 38 = .ok (.getfield 51, 3) := by decide +kernel
theorem dX1_joined_41 : decode cX1_joined 41 = .ok (.ixor, 1) := by decide +kernel
theorem dX1_joined_42 : decode cX1_joined 42 = .ok (.istore 6, 2) := by decide +kernel
theorem dX1_joined_44 : decode cX1_joined 44 = .ok (.aload 5, 2) := by decide +kernel
theorem dX1_joined_46 : decode cX1_joined 46 = .ok (.ldc2_w 115, 3) := by decide +kernel
theorem dX1_joined_49 : decode cX1_joined 49 = .ok (.iload 4, 2) := by decide +kernel
theorem dX1_joined_51 : decode cX1_joined 51 = .ok (.i2l, 1) := by decide +kernel
theorem dX1_joined_52 : decode cX1_joined 52 = .ok (.lmul, 1) := by decide +kernel
theorem dX1_joined_53 : decode cX1_joined 53 = .ok (.invokevirtual 70, 3) := by decide +kernel
theorem dX1_joined_56 : decode cX1_joined 56 = .ok (.istore 7, 2) := by decide +kernel
theorem dX1_joined_58 : decode cX1_joined 58 = .ok (.aload 5, 2) := by decide +kernel
theorem dX1_joined_60 : decode cX1_joined 60 = .ok (.iload_n 3, 1) := by decide +kernel
theorem dX1_joined_61 : decode cX1_joined 61 = .ok (.invokevirtual 112, 3) := by decide +kernel
theorem dX1_joined_64 : decode cX1_joined 64 = .ok (.aload 5, 2) := by decide +kernel
theorem dX1_joined_66 : decode cX1_joined 66 = .ok (.iload 6, 2) := by decide +kernel
theorem dX1_joined_68 : decode cX1_joined 68 = .ok (.iload 7, 2) := by decide +kernel
theorem dX1_joined_70 : decode cX1_joined 70 = .ok (.invokevirtual 65, 3) := by decide +kernel
theorem dX1_joined_73 : decode cX1_joined 73 = .ok (.ixor, 1) := by decide +kernel
theorem dX1_joined_74 : decode cX1_joined 74 = .ok (.istore 8, 2) := by decide +kernel
theorem dX1_joined_76 : decode cX1_joined 76 = .ok (.aload 5, 2) := by decide +kernel
theorem dX1_joined_78 : decode cX1_joined 78 = .ok (.iload 8, 2) := by decide +kernel
theorem dX1_joined_80 : decode cX1_joined 80 = .ok (.invokevirtual 58, 3) := by decide +kernel
theorem dX1_joined_83 : decode cX1_joined 83 = .ok (.ireturn, 1) := by decide +kernel
set_option maxRecDepth 20000 in
theorem ggX1_patched_X1_findModel : GoodIn wsX1_patched wsX1_findModel := goodIn_ca (goodIn_r _ [7, 8, 9, 10, 73, 74, 75, 76] (by decide +kernel) (by decide +kernel)) (goodIn_sub (fun _ h => List.mem_cons_of_mem _ (List.mem_append_left _ (List.mem_append_right _ h))) (by decide +kernel))
set_option maxRecDepth 20000 in
theorem gX1_patched_X1_findModel : GoodIn wsX1_patched (wsV RX1 47 RX1 yX1_findModel wsX1_findModel) := goodIn_app (goodIn_of _ (by decide +kernel)) ggX1_patched_X1_findModel
set_option maxRecDepth 20000 in
theorem ggX1_patched_X1_requireNumber : GoodIn wsX1_patched wsX1_requireNumber := goodIn_ca (goodIn_r _ [13, 14, 15] (by decide +kernel) (by decide +kernel)) (goodIn_sub (fun _ h => List.mem_cons_of_mem _ (List.mem_append_right _ h)) (by decide +kernel))
set_option maxRecDepth 20000 in
theorem gX1_patched_X1_requireNumber : GoodIn wsX1_patched (va_wsS RX1 35 yX1_requireNumber wsX1_requireNumber) := goodIn_app (goodIn_of _ (by decide +kernel)) ggX1_patched_X1_requireNumber
set_option maxRecDepth 20000 in
theorem ggX1_patched_X1_requireLength : GoodIn wsX1_patched wsX1_requireLength := goodIn_ca (goodIn_r _ [18, 14, 15] (by decide +kernel) (by decide +kernel)) (goodIn_sub (fun _ h => List.mem_cons_of_mem _ (List.mem_append_right _ h)) (by decide +kernel))
set_option maxRecDepth 20000 in
theorem gX1_patched_X1_requireLength : GoodIn wsX1_patched (va_wsS RX1 109 yX1_requireLength wsX1_requireLength) := goodIn_app (goodIn_of _ (by decide +kernel)) ggX1_patched_X1_requireLength
set_option maxRecDepth 20000 in
theorem ggX1_patched_X1_requireByte : GoodIn wsX1_patched wsX1_requireByte := goodIn_ca (goodIn_r _ [21, 14, 15] (by decide +kernel) (by decide +kernel)) (goodIn_sub (fun _ h => List.mem_cons_of_mem _ (List.mem_append_right _ h)) (by decide +kernel))
set_option maxRecDepth 20000 in
theorem gX1_patched_X1_requireByte : GoodIn wsX1_patched (va_wsS RX1 84 yX1_requireByte wsX1_requireByte) := goodIn_app (goodIn_of _ (by decide +kernel)) ggX1_patched_X1_requireByte
set_option maxRecDepth 20000 in
theorem ggX1_patched_X0_inTakenOrder : GoodIn wsX1_patched wsX0_inTakenOrder := goodIn_r _ [26, 27, 28, 6, 29, 65, 66, 67, 68, 69, 70, 71, 72] (by decide +kernel) (by decide +kernel)
set_option maxRecDepth 20000 in
theorem gX1_patched_X0_inTakenOrder : GoodIn wsX1_patched (wsV RX1 117 RX0 yX0_inTakenOrder wsX0_inTakenOrder) := goodIn_app (goodIn_of _ (by decide +kernel)) ggX1_patched_X0_inTakenOrder
set_option maxRecDepth 20000 in
theorem ggX1_patched_X0_divideByte : GoodIn wsX1_patched wsX0_divideByte := goodIn_r _ [33, 34, 35, 36, 25, 37, 38, 39, 40, 65, 66, 67, 68, 69, 70, 71, 72] (by decide +kernel) (by decide +kernel)
set_option maxRecDepth 20000 in
theorem gX1_patched_X0_divideByte : GoodIn wsX1_patched (wsV RX1 106 RX0 yX0_divideByte wsX0_divideByte) := goodIn_app (goodIn_of _ (by decide +kernel)) ggX1_patched_X0_divideByte
set_option maxRecDepth 20000 in
theorem ggX1_patched_X0_powerOfX : GoodIn wsX1_patched wsX0_powerOfX := goodIn_r _ [44, 45, 46, 47, 25, 48, 49, 34, 35, 36, 37, 38, 39, 40, 65, 66, 67, 68, 69, 70, 71, 72] (by decide +kernel) (by decide +kernel)
set_option maxRecDepth 20000 in
theorem gX1_patched_X0_powerOfX : GoodIn wsX1_patched (wsV RX1 70 RX0 yX0_powerOfX wsX0_powerOfX) := goodIn_app (goodIn_of _ (by decide +kernel)) ggX1_patched_X0_powerOfX
set_option maxRecDepth 20000 in
theorem ggX1_patched_X0_registerOfSum : GoodIn wsX1_patched wsX0_registerOfSum := goodIn_r _ [53, 54, 55, 56, 57, 25, 58, 59, 49, 28, 6, 29, 65, 66, 67, 68, 69, 70, 71, 72] (by decide +kernel) (by decide +kernel)
set_option maxRecDepth 20000 in
theorem gX1_patched_X0_registerOfSum : GoodIn wsX1_patched (wsV RX1 112 RX0 yX0_registerOfSum wsX0_registerOfSum) := goodIn_app (goodIn_of _ (by decide +kernel)) ggX1_patched_X0_registerOfSum
set_option maxRecDepth 20000 in
theorem ggX1_patched_X0_product : GoodIn wsX1_patched wsX0_product := goodIn_r _ [48, 49, 34, 35, 36, 25, 37, 38, 39, 40, 65, 66, 67, 68, 69, 70, 71, 72] (by decide +kernel) (by decide +kernel)
set_option maxRecDepth 20000 in
theorem gX1_patched_X0_product : GoodIn wsX1_patched (wsV RX1 65 RX0 yX0_product wsX0_product) := goodIn_app (goodIn_of _ (by decide +kernel)) ggX1_patched_X0_product
set_option maxRecDepth 20000 in
theorem ggX1_patched_X0_sumOfRegister : GoodIn wsX1_patched wsX0_sumOfRegister := goodIn_r _ [64, 54, 55, 56, 57, 25, 58, 59, 49, 28, 6, 29, 65, 66, 67, 68, 69, 70, 71, 72] (by decide +kernel) (by decide +kernel)
set_option maxRecDepth 20000 in
theorem gX1_patched_X0_sumOfRegister : GoodIn wsX1_patched (wsV RX1 58 RX0 yX0_sumOfRegister wsX0_sumOfRegister) := goodIn_app (goodIn_of _ (by decide +kernel)) ggX1_patched_X0_sumOfRegister
theorem dX1_patched_0 : decode cX1_patched 0 = .ok (.aload_n 0, 1) := by decide +kernel
theorem dX1_patched_1 : decode cX1_patched 1 = .ok (.iload_n 1, 1) := by decide +kernel
theorem dX1_patched_2 : decode cX1_patched 2 = .ok (.invokevirtual 47, 3) := by decide +kernel
theorem dX1_patched_5 : decode cX1_patched 5 = .ok (.astore 5, 2) := by decide +kernel
theorem dX1_patched_7 : decode cX1_patched 7 = .ok (.aload 5, 2) := by decide +kernel
theorem dX1_patched_9 : decode cX1_patched 9 = .ok (.getfield 62, 3) := by decide +kernel
theorem dX1_patched_12 : decode cX1_patched 12 = .ok (.iload_n 2, 1) := by decide +kernel
theorem dX1_patched_13 : decode cX1_patched 13 = .ok (.invokestatic 35, 3) := by decide +kernel
theorem dX1_patched_16 : decode cX1_patched 16 = .ok (.iload_n 3, 1) := by decide +kernel
theorem dX1_patched_17 : decode cX1_patched 17 = .ok (.invokestatic 109, 3) := by decide +kernel
theorem dX1_patched_20 : decode cX1_patched 20 = .ok (.iload 4, 2) := by decide +kernel
theorem dX1_patched_22 : decode cX1_patched 22 = .ok (.invokestatic 84, 3) := by decide +kernel
theorem dX1_patched_25 : decode cX1_patched 25 = .ok (.aload 5, 2) := by decide +kernel
theorem dX1_patched_27 : decode cX1_patched 27 = .ok (.iconst 0, 1) := by decide +kernel
theorem dX1_patched_28 : decode cX1_patched 28 = .ok (.aload 5, 2) := by decide +kernel
theorem dX1_patched_30 : decode cX1_patched 30 = .ok (.iload 4, 2) := by decide +kernel
theorem dX1_patched_32 : decode cX1_patched 32 = .ok (.invokevirtual 117, 3) := by decide +kernel
theorem dX1_patched_35 : decode cX1_patched 35 = .ok (.invokevirtual 106, 3) := by decide +kernel
theorem dX1_patched_38 : decode cX1_patched 38 = .ok (.istore 6, 2) := by decide +kernel
theorem dX1_patched_40 : decode cX1_patched 40 = .ok (.aload 5, 2) := by decide +kernel
theorem dX1_patched_42 : decode cX1_patched 42 = .ok (.ldc2_w 115, 3) := by decide +kernel
theorem dX1_patched_45 : decode cX1_patched 45 = .ok (.iload_n 3, 1) := by decide +kernel
theorem dX1_patched_46 : decode cX1_patched 46 = .ok (.i2l, 1) := by decide +kernel
theorem dX1_patched_47 : decode cX1_patched 47 = .ok (.lmul, 1) := by decide +kernel
theorem dX1_patched_48 : decode cX1_patched 48 = .ok (.aload 5, 2) := by decide +kernel
theorem dX1_patched_50 : decode cX1_patched 50 = .ok (.getfield 62, 3) := by decide +kernel
theorem dX1_patched_53 : decode cX1_patched 53 = .ok (.i2l, 1) := by decide +kernel
theorem dX1_patched_54 : decode cX1_patched 54 = .ok (.ladd, 1) := by decide +kernel
theorem dX1_patched_55 : decode cX1_patched 55 = .ok (.invokevirtual 70, 3) := by decide +kernel
theorem dX1_patched_58 : decode cX1_patched 58 = .ok (.istore 7, 2) := by decide +kernel
theorem dX1_patched_60 : decode cX1_patched 60 = .ok (.aload 5, 2) := by decide +kernel
theorem dX1_patched_62 : decode cX1_patched 62 = .ok (.iload_n 2, 1) := by decide +kernel
theorem dX1_patched_63 : decode cX1_patched 63 = .ok (.invokevirtual 112, 3) := by decide +kernel
theorem dX1_patched_66 : decode cX1_patched 66 = .ok (.aload 5, 2) := by decide +kernel
theorem dX1_patched_68 : decode cX1_patched 68 = .ok (.iload 6, 2) := by decide +kernel
theorem dX1_patched_70 : decode cX1_patched 70 = .ok (.iload 7, 2) := by decide +kernel
theorem dX1_patched_72 : decode cX1_patched 72 = .ok (.invokevirtual 65, 3) := by decide +kernel
theorem dX1_patched_75 : decode cX1_patched 75 = .ok (.ixor, 1) := by decide +kernel
theorem dX1_patched_76 : decode cX1_patched 76 = .ok (.istore 8, 2) := by decide +kernel
theorem dX1_patched_78 : decode cX1_patched 78 = .ok (.aload 5, 2) := by decide +kernel
theorem dX1_patched_80 : decode cX1_patched 80 = .ok (.iload 8, 2) := by decide +kernel
theorem dX1_patched_82 : decode cX1_patched 82 = .ok (.invokevirtual 58, 3) := by decide +kernel
theorem dX1_patched_85 : decode cX1_patched 85 = .ok (.ireturn, 1) := by decide +kernel
set_option maxRecDepth 20000 in
theorem ggX1_wrongBit_X1_findModel : GoodIn wsX1_wrongBit wsX1_findModel := goodIn_ca (goodIn_r _ [9, 10, 11, 12, 40, 41, 42, 43] (by decide +kernel) (by decide +kernel)) (goodIn_sub (fun _ h => List.mem_cons_of_mem _ (List.mem_append_right _ h)) (by decide +kernel))
set_option maxRecDepth 20000 in
theorem gX1_wrongBit_X1_findModel : GoodIn wsX1_wrongBit (wsV RX1 47 RX1 yX1_findModel wsX1_findModel) := goodIn_app (goodIn_of _ (by decide +kernel)) ggX1_wrongBit_X1_findModel
set_option maxRecDepth 20000 in
theorem ggX1_wrongBit_X1_requireNumber : GoodIn wsX1_wrongBit wsX1_requireNumber := goodIn_ca (goodIn_r _ [15, 1, 2] (by decide +kernel) (by decide +kernel)) (goodIn_sub (fun _ h => List.mem_cons_of_mem _ (List.mem_append_left _ (List.mem_append_right _ h))) (by decide +kernel))
set_option maxRecDepth 20000 in
theorem gX1_wrongBit_X1_requireNumber : GoodIn wsX1_wrongBit (va_wsS RX1 35 yX1_requireNumber wsX1_requireNumber) := goodIn_app (goodIn_of _ (by decide +kernel)) ggX1_wrongBit_X1_requireNumber
set_option maxRecDepth 20000 in
theorem ggX1_wrongBit_X0_inSumOrder : GoodIn wsX1_wrongBit wsX0_inSumOrder := goodIn_r _ [20, 21, 22, 23, 8, 24, 32, 33, 34, 35, 36, 37, 38, 39] (by decide +kernel) (by decide +kernel)
set_option maxRecDepth 20000 in
theorem gX1_wrongBit_X0_inSumOrder : GoodIn wsX1_wrongBit (wsV RX1 120 RX0 yX0_inSumOrder wsX0_inSumOrder) := goodIn_app (goodIn_of _ (by decide +kernel)) ggX1_wrongBit_X0_inSumOrder
set_option maxRecDepth 20000 in
theorem ggX1_wrongBit_X0_timesX : GoodIn wsX1_wrongBit wsX0_timesX := goodIn_r _ [28, 29, 30, 31, 32, 33, 34, 35, 36, 37, 38, 39] (by decide +kernel) (by decide +kernel)
set_option maxRecDepth 20000 in
theorem gX1_wrongBit_X0_timesX : GoodIn wsX1_wrongBit (wsV RX1 77 RX0 yX0_timesX wsX0_timesX) := goodIn_app (goodIn_of _ (by decide +kernel)) ggX1_wrongBit_X0_timesX
theorem dX1_wrongBit_0 : decode cX1_wrongBit 0 = .ok (.aload_n 0, 1) := by decide +kernel
theorem dX1_wrongBit_1 : decode cX1_wrongBit 1 = .ok (.iload_n 1, 1) := by decide +kernel
theorem dX1_wrongBit_2 : decode cX1_wrongBit 2 = .ok (.invokevirtual 47, 3) := by decide +kernel
theorem dX1_wrongBit_5 : decode cX1_wrongBit 5 = .ok (.astore 4, 2) := by decide +kernel
theorem dX1_wrongBit_7 : decode cX1_wrongBit 7 = .ok (.aload 4, 2) := by decide +kernel
theorem dX1_wrongBit_9 : decode cX1_wrongBit 9 = .ok (.getfield 62, 3) := by decide +kernel
theorem dX1_wrongBit_12 : decode cX1_wrongBit 12 = .ok (.iload_n 2, 1) := by decide +kernel
theorem dX1_wrongBit_13 : decode cX1_wrongBit 13 = .ok (.invokestatic 35, 3) := by decide +kernel
theorem dX1_wrongBit_16 : decode cX1_wrongBit 16 = .ok (.iload_n 3, 1) := by decide +kernel
theorem dX1_wrongBit_17 : decode cX1_wrongBit 17 = .ok (.ifCond .lt 10, 3) := by decide +kernel
theorem dX1_wrongBit_20 : decode cX1_wrongBit 20 = .ok (.iload_n 3, 1) := by decide +kernel
theorem dX1_wrongBit_21 : decode cX1_wrongBit 21 = .ok (.sipush 4000, 3) := by decide +kernel
theorem dX1_wrongBit_24 : decode cX1_wrongBit 24 = .ok (.if_icmp .le 13, 3) := by decide +kernel
theorem dX1_wrongBit_27 : decode cX1_wrongBit 27 = .ok (.new 28, 3) := by decide +kernel
theorem dX1_wrongBit_30 : decode cX1_wrongBit 30 = .ok (.dup, 1) := by decide +kernel
theorem dX1_wrongBit_31 : decode cX1_wrongBit 31 = .ok (.ldc 95, 2) := by decide +kernel
theorem dX1_wrongBit_33 : decode cX1_wrongBit 33 = .ok (.invokespecial 32, 3) := by decide +kernel
theorem dX1_wrongBit_36 : decode cX1_wrongBit 36 = .ok (.athrow, 1) := by decide +kernel
theorem dX1_wrongBit_37 : decode cX1_wrongBit 37 = .ok (.aload 4, 2) := by decide +kernel
theorem dX1_wrongBit_39 : decode cX1_wrongBit 39 = .ok (.iload_n 2, 1) := by decide +kernel
theorem dX1_wrongBit_40 : decode cX1_wrongBit 40 = .ok (.invokevirtual 120, 3) := by decide +kernel
theorem dX1_wrongBit_43 : decode cX1_wrongBit 43 = .ok (.istore 5, 2) := by decide +kernel
theorem dX1_wrongBit_45 : decode cX1_wrongBit 45 = .ok (.aload 4, 2) := by decide +kernel
theorem dX1_wrongBit_47 : decode cX1_wrongBit 47 = .ok (.getfield 123, 3) := by decide +kernel
theorem dX1_wrongBit_50 : decode cX1_wrongBit 50 = .ok (.istore 6, 2) := by decide +kernel
theorem dX1_wrongBit_52 : decode cX1_wrongBit 52 = .ok (.iconst (-1), 1) := by decide +kernel
theorem dX1_wrongBit_53 : decode cX1_wrongBit 53 = .ok (.istore 7, 2) := by decide +kernel
theorem dX1_wrongBit_55 : decode cX1_wrongBit 55 = .ok (.bipush 8, 2) := by decide +kernel
theorem dX1_wrongBit_57 : decode cX1_wrongBit 57 = .ok (.iload_n 3, 1) := by decide +kernel
theorem dX1_wrongBit_58 : decode cX1_wrongBit 58 = .ok (.imul, 1) := by decide +kernel
theorem dX1_wrongBit_59 : decode cX1_wrongBit 59 = .ok (.iconst 1, 1) := by decide +kernel
theorem dX1_wrongBit_60 : decode cX1_wrongBit 60 = .ok (.isub, 1) := by decide +kernel
theorem dX1_wrongBit_61 : decode cX1_wrongBit 61 = .ok (.istore 8, 2) := by decide +kernel
theorem dX1_wrongBit_63 : decode cX1_wrongBit 63 = .ok (.iload 8, 2) := by decide +kernel
theorem dX1_wrongBit_65 : decode cX1_wrongBit 65 = .ok (.ifCond .lt 29, 3) := by decide +kernel
theorem dX1_wrongBit_68 : decode cX1_wrongBit 68 = .ok (.iload 6, 2) := by decide +kernel
theorem dX1_wrongBit_70 : decode cX1_wrongBit 70 = .ok (.iload 5, 2) := by decide +kernel
theorem dX1_wrongBit_72 : decode cX1_wrongBit 72 = .ok (.if_icmp .ne 7, 3) := by decide +kernel
theorem dX1_wrongBit_75 : decode cX1_wrongBit 75 = .ok (.iload 8, 2) := by decide +kernel
theorem dX1_wrongBit_77 : decode cX1_wrongBit 77 = .ok (.istore 7, 2) := by decide +kernel
theorem dX1_wrongBit_79 : decode cX1_wrongBit 79 = .ok (.aload 4, 2) := by decide +kernel
theorem dX1_wrongBit_81 : decode cX1_wrongBit 81 = .ok (.iload 6, 2) := by decide +kernel
theorem dX1_wrongBit_83 : decode cX1_wrongBit 83 = .ok (.invokevirtual 77, 3) := by decide +kernel
theorem dX1_wrongBit_86 : decode cX1_wrongBit 86 = .ok (.istore 6, 2) := by decide +kernel
theorem dX1_wrongBit_88 : decode cX1_wrongBit 88 = .ok (.iinc 8 (-1), 3) := by decide +kernel
theorem dX1_wrongBit_91 : decode cX1_wrongBit 91 = .ok (.goto (-28), 3) := by decide +kernel
theorem dX1_wrongBit_94 : decode cX1_wrongBit 94 = .ok (.iload 7, 2) := by decide +kernel
theorem dX1_wrongBit_96 : decode cX1_wrongBit 96 = .ok (.ireturn, 1) := by decide +kernel
set_option maxRecDepth 20000 in
theorem ggX1_fletcher_X1_requireRow : GoodIn wsX1_fletcher wsX1_requireRow := goodIn_ca (goodIn_r _ [6, 7, 8] (by decide +kernel) (by decide +kernel)) (goodIn_sub (fun _ h => List.mem_cons_of_mem _ (List.mem_append_right _ h)) (by decide +kernel))
set_option maxRecDepth 20000 in
theorem gX1_fletcher_X1_requireRow : GoodIn wsX1_fletcher (va_wsS RX1 80 yX1_requireRow wsX1_requireRow) := goodIn_app (goodIn_of _ (by decide +kernel)) ggX1_fletcher_X1_requireRow
theorem dX1_fletcher_0 : decode cX1_fletcher 0 = .ok (.iload_n 1, 1) := by decide +kernel
theorem dX1_fletcher_1 : decode cX1_fletcher 1 = .ok (.invokestatic 80, 3) := by decide +kernel
theorem dX1_fletcher_4 : decode cX1_fletcher 4 = .ok (.aload_n 0, 1) := by decide +kernel
theorem dX1_fletcher_5 : decode cX1_fletcher 5 = .ok (.getfield 24, 3) := by decide +kernel
theorem dX1_fletcher_8 : decode cX1_fletcher 8 = .ok (.iload_n 1, 1) := by decide +kernel
theorem dX1_fletcher_9 : decode cX1_fletcher 9 = .ok (.iaload, 1) := by decide +kernel
theorem dX1_fletcher_10 : decode cX1_fletcher 10 = .ok (.istore_n 2, 1) := by decide +kernel
theorem dX1_fletcher_11 : decode cX1_fletcher 11 = .ok (.iconst 0, 1) := by decide +kernel
theorem dX1_fletcher_12 : decode cX1_fletcher 12 = .ok (.istore_n 3, 1) := by decide +kernel
theorem dX1_fletcher_13 : decode cX1_fletcher 13 = .ok (.iconst 0, 1) := by decide +kernel
theorem dX1_fletcher_14 : decode cX1_fletcher 14 = .ok (.istore 4, 2) := by decide +kernel
theorem dX1_fletcher_16 : decode cX1_fletcher 16 = .ok (.iconst 0, 1) := by decide +kernel
theorem dX1_fletcher_17 : decode cX1_fletcher 17 = .ok (.istore 5, 2) := by decide +kernel
theorem dX1_fletcher_19 : decode cX1_fletcher 19 = .ok (.iload 5, 2) := by decide +kernel
theorem dX1_fletcher_21 : decode cX1_fletcher 21 = .ok (.iload_n 2, 1) := by decide +kernel
theorem dX1_fletcher_22 : decode cX1_fletcher 22 = .ok (.if_icmp .ge 35, 3) := by decide +kernel
theorem dX1_fletcher_25 : decode cX1_fletcher 25 = .ok (.iload_n 3, 1) := by decide +kernel
theorem dX1_fletcher_26 : decode cX1_fletcher 26 = .ok (.aload_n 0, 1) := by decide +kernel
theorem dX1_fletcher_27 : decode cX1_fletcher 27 = .ok (.getfield 21, 3) := by decide +kernel
theorem dX1_fletcher_30 : decode cX1_fletcher 30 = .ok (.iload_n 1, 1) := by decide +kernel
theorem dX1_fletcher_31 : decode cX1_fletcher 31 = .ok (.aaload, 1) := by decide +kernel
theorem dX1_fletcher_32 : decode cX1_fletcher 32 = .ok (.iload 5, 2) := by decide +kernel
theorem dX1_fletcher_34 : decode cX1_fletcher 34 = .ok (.iaload, 1) := by decide +kernel
theorem dX1_fletcher_35 : decode cX1_fletcher 35 = .ok (.iadd, 1) := by decide +kernel
theorem dX1_fletcher_36 : decode cX1_fletcher 36 = .ok (.sipush 255, 3) := by decide +kernel
theorem dX1_fletcher_39 : decode cX1_fletcher 39 = .ok (.irem, 1) := by decide +kernel
theorem dX1_fletcher_40 : decode cX1_fletcher 40 = .ok (.istore_n 3, 1) := by decide +kernel
theorem dX1_fletcher_41 : decode cX1_fletcher 41 = .ok (.iload 4, 2) := by decide +kernel
theorem dX1_fletcher_43 : decode cX1_fletcher 43 = .ok (.iload_n 3, 1) := by decide +kernel
theorem dX1_fletcher_44 : decode cX1_fletcher 44 = .ok (.iadd, 1) := by decide +kernel
theorem dX1_fletcher_45 : decode cX1_fletcher 45 = .ok (.sipush 255, 3) := by decide +kernel
theorem dX1_fletcher_48 : decode cX1_fletcher 48 = .ok (.irem, 1) := by decide +kernel
theorem dX1_fletcher_49 : decode cX1_fletcher 49 = .ok (.istore 4, 2) := by decide +kernel
theorem dX1_fletcher_51 : decode cX1_fletcher 51 = .ok (.iinc 5 1, 3) := by decide +kernel
theorem dX1_fletcher_54 : decode cX1_fletcher 54 = .ok (.goto (-35), 3) := by decide +kernel
theorem dX1_fletcher_57 : decode cX1_fletcher 57 = .ok (.sipush 256, 3) := by decide +kernel
theorem dX1_fletcher_60 : decode cX1_fletcher 60 = .ok (.iload 4, 2) := by decide +kernel
theorem dX1_fletcher_62 : decode cX1_fletcher 62 = .ok (.imul, 1) := by decide +kernel
theorem dX1_fletcher_63 : decode cX1_fletcher 63 = .ok (.iload_n 3, 1) := by decide +kernel
theorem dX1_fletcher_64 : decode cX1_fletcher 64 = .ok (.iadd, 1) := by decide +kernel
theorem dX1_fletcher_65 : decode cX1_fletcher 65 = .ok (.ireturn, 1) := by decide +kernel
set_option maxRecDepth 20000 in
theorem ggX1_fletcherJoined_X1_requireFletcher : GoodIn wsX1_fletcherJoined wsX1_requireFletcher := goodIn_ca (goodIn_r _ [5, 6, 7] (by decide +kernel) (by decide +kernel)) (goodIn_sub (fun _ h => List.mem_cons_of_mem _ (List.mem_append_right _ h)) (by decide +kernel))
set_option maxRecDepth 20000 in
theorem gX1_fletcherJoined_X1_requireFletcher : GoodIn wsX1_fletcherJoined (va_wsS RX1 126 yX1_requireFletcher wsX1_requireFletcher) := goodIn_app (goodIn_of _ (by decide +kernel)) ggX1_fletcherJoined_X1_requireFletcher
set_option maxRecDepth 20000 in
theorem ggX1_fletcherJoined_X1_requireLength : GoodIn wsX1_fletcherJoined wsX1_requireLength := goodIn_ca (goodIn_r _ [10, 6, 7] (by decide +kernel) (by decide +kernel)) (goodIn_sub (fun _ h => List.mem_cons_of_mem _ (List.mem_append_right _ h)) (by decide +kernel))
set_option maxRecDepth 20000 in
theorem gX1_fletcherJoined_X1_requireLength : GoodIn wsX1_fletcherJoined (va_wsS RX1 109 yX1_requireLength wsX1_requireLength) := goodIn_app (goodIn_of _ (by decide +kernel)) ggX1_fletcherJoined_X1_requireLength
theorem dX1_fletcherJoined_0 : decode cX1_fletcherJoined 0 = .ok (.iload_n 1, 1) := by decide +kernel
theorem dX1_fletcherJoined_1 : decode cX1_fletcherJoined 1 = .ok (.invokestatic 126, 3) := by decide +kernel
theorem dX1_fletcherJoined_4 : decode cX1_fletcherJoined 4 = .ok (.iload_n 2, 1) := by decide +kernel
theorem dX1_fletcherJoined_5 : decode cX1_fletcherJoined 5 = .ok (.invokestatic 126, 3) := by decide +kernel
theorem dX1_fletcherJoined_8 : decode cX1_fletcherJoined 8 = .ok (.iload_n 3, 1) := by decide +kernel
theorem dX1_fletcherJoined_9 : decode cX1_fletcherJoined 9 = .ok (.invokestatic 109, 3) := by decide +kernel
theorem dX1_fletcherJoined_12 : decode cX1_fletcherJoined 12 = .ok (.iload_n 1, 1) := by decide +kernel
theorem dX1_fletcherJoined_13 : decode cX1_fletcherJoined 13 = .ok (.sipush 256, 3) := by decide +kernel
theorem dX1_fletcherJoined_16 : decode cX1_fletcherJoined 16 = .ok (.irem, 1) := by decide +kernel
theorem dX1_fletcherJoined_17 : decode cX1_fletcherJoined 17 = .ok (.istore 4, 2) := by decide +kernel
theorem dX1_fletcherJoined_19 : decode cX1_fletcherJoined 19 = .ok (.iload_n 1, 1) := by decide +kernel
theorem dX1_fletcherJoined_20 : decode cX1_fletcherJoined 20 = .ok (.sipush 256, 3) := by decide +kernel
theorem dX1_fletcherJoined_23 : decode cX1_fletcherJoined 23 = .ok (.idiv, 1) := by decide +kernel
theorem dX1_fletcherJoined_24 : decode cX1_fletcherJoined 24 = .ok (.istore 5, 2) := by decide +kernel
theorem dX1_fletcherJoined_26 : decode cX1_fletcherJoined 26 = .ok (.iload_n 2, 1) := by decide +kernel
theorem dX1_fletcherJoined_27 : decode cX1_fletcherJoined 27 = .ok (.sipush 256, 3) := by decide +kernel
theorem dX1_fletcherJoined_30 : decode cX1_fletcherJoined 30 = .ok (.irem, 1) := by decide +kernel
theorem dX1_fletcherJoined_31 : decode cX1_fletcherJoined 31 = .ok (.istore 6, 2) := by decide +kernel
theorem dX1_fletcherJoined_33 : decode cX1_fletcherJoined 33 = .ok (.iload_n 2, 1) := by decide +kernel
theorem dX1_fletcherJoined_34 : decode cX1_fletcherJoined 34 = .ok (.sipush 256, 3) := by decide +kernel
theorem dX1_fletcherJoined_37 : decode cX1_fletcherJoined 37 = .ok (.idiv, 1) := by decide +kernel
theorem dX1_fletcherJoined_38 : decode cX1_fletcherJoined 38 = .ok (.istore 7, 2) := by decide +kernel
theorem dX1_fletcherJoined_40 : decode cX1_fletcherJoined 40 = .ok (.iload 4, 2) := by decide +kernel
theorem dX1_fletcherJoined_42 : decode cX1_fletcherJoined 42 = .ok (.iload 6, 2) := by decide +kernel
theorem dX1_fletcherJoined_44 : decode cX1_fletcherJoined 44 = .ok (.iadd, 1) := by decide +kernel
theorem dX1_fletcherJoined_45 : decode cX1_fletcherJoined 45 = .ok (.sipush 255, 3) := by decide +kernel
theorem dX1_fletcherJoined_48 : decode cX1_fletcherJoined 48 = .ok (.irem, 1) := by decide +kernel
theorem dX1_fletcherJoined_49 : decode cX1_fletcherJoined 49 = .ok (.istore 8, 2) := by decide +kernel
theorem dX1_fletcherJoined_51 : decode cX1_fletcherJoined 51 = .ok (.iload 5, 2) := by decide +kernel
theorem dX1_fletcherJoined_53 : decode cX1_fletcherJoined 53 = .ok (.iload 7, 2) := by decide +kernel
theorem dX1_fletcherJoined_55 : decode cX1_fletcherJoined 55 = .ok (.iadd, 1) := by decide +kernel
theorem dX1_fletcherJoined_56 : decode cX1_fletcherJoined 56 = .ok (.i2l, 1) := by decide +kernel
theorem dX1_fletcherJoined_57 : decode cX1_fletcherJoined 57 = .ok (.iload_n 3, 1) := by decide +kernel
theorem dX1_fletcherJoined_58 : decode cX1_fletcherJoined 58 = .ok (.i2l, 1) := by decide +kernel
theorem dX1_fletcherJoined_59 : decode cX1_fletcherJoined 59 = .ok (.iload 4, 2) := by decide +kernel
theorem dX1_fletcherJoined_61 : decode cX1_fletcherJoined 61 = .ok (.i2l, 1) := by decide +kernel
theorem dX1_fletcherJoined_62 : decode cX1_fletcherJoined 62 = .ok (.lmul, 1) := by decide +kernel
theorem dX1_fletcherJoined_63 : decode cX1_fletcherJoined 63 = .ok (.ladd, 1) := by decide +kernel
theorem dX1_fletcherJoined_64 : decode cX1_fletcherJoined 64 = .ok (.ldc2_w 129, 3) := by decide +kernel
theorem dX1_fletcherJoined_67 : decode cX1_fletcherJoined 67 = .ok (.lrem, 1) := by decide +kernel
theorem dX1_fletcherJoined_68 : decode cX1_fletcherJoined 68 = .ok (.l2i, 1) := by decide +kernel
theorem dX1_fletcherJoined_69 : decode cX1_fletcherJoined 69 = .ok (.istore 9, 2) := by decide +kernel
theorem dX1_fletcherJoined_71 : decode cX1_fletcherJoined 71 = .ok (.sipush 256, 3) := by decide +kernel
theorem dX1_fletcherJoined_74 : decode cX1_fletcherJoined 74 = .ok (.iload 9, 2) := by decide +kernel
theorem dX1_fletcherJoined_76 : decode cX1_fletcherJoined 76 = .ok (.imul, 1) := by decide +kernel
theorem dX1_fletcherJoined_77 : decode cX1_fletcherJoined 77 = .ok (.iload 8, 2) := by decide +kernel
theorem dX1_fletcherJoined_79 : decode cX1_fletcherJoined 79 = .ok (.iadd, 1) := by decide +kernel
theorem dX1_fletcherJoined_80 : decode cX1_fletcherJoined 80 = .ok (.ireturn, 1) := by decide +kernel
set_option maxRecDepth 20000 in
theorem ggX1_adler_X1_requireRow : GoodIn wsX1_adler wsX1_requireRow := goodIn_ca (goodIn_r _ [7, 8, 9] (by decide +kernel) (by decide +kernel)) (goodIn_sub (fun _ h => List.mem_cons_of_mem _ (List.mem_append_right _ h)) (by decide +kernel))
set_option maxRecDepth 20000 in
theorem gX1_adler_X1_requireRow : GoodIn wsX1_adler (va_wsS RX1 80 yX1_requireRow wsX1_requireRow) := goodIn_app (goodIn_of _ (by decide +kernel)) ggX1_adler_X1_requireRow
set_option maxRecDepth 20000 in
theorem ggX1_adler_X1_adlerSum : GoodIn wsX1_adler wsX1_adlerSum := goodIn_r _ [12, 13, 14, 15, 16, 17] (by decide +kernel) (by decide +kernel)
set_option maxRecDepth 20000 in
theorem gX1_adler_X1_adlerSum : GoodIn wsX1_adler (va_wsS RX1 132 yX1_adlerSum wsX1_adlerSum) := goodIn_app (goodIn_of _ (by decide +kernel)) ggX1_adler_X1_adlerSum
theorem dX1_adler_0 : decode cX1_adler 0 = .ok (.iload_n 1, 1) := by decide +kernel
theorem dX1_adler_1 : decode cX1_adler 1 = .ok (.invokestatic 80, 3) := by decide +kernel
theorem dX1_adler_4 : decode cX1_adler 4 = .ok (.aload_n 0, 1) := by decide +kernel
theorem dX1_adler_5 : decode cX1_adler 5 = .ok (.getfield 24, 3) := by decide +kernel
theorem dX1_adler_8 : decode cX1_adler 8 = .ok (.iload_n 1, 1) := by decide +kernel
theorem dX1_adler_9 : decode cX1_adler 9 = .ok (.iaload, 1) := by decide +kernel
theorem dX1_adler_10 : decode cX1_adler 10 = .ok (.istore_n 2, 1) := by decide +kernel
theorem dX1_adler_11 : decode cX1_adler 11 = .ok (.iconst 1, 1) := by decide +kernel
theorem dX1_adler_12 : decode cX1_adler 12 = .ok (.istore_n 3, 1) := by decide +kernel
theorem dX1_adler_13 : decode cX1_adler 13 = .ok (.iconst 0, 1) := by decide +kernel
theorem dX1_adler_14 : decode cX1_adler 14 = .ok (.istore 4, 2) := by decide +kernel
theorem dX1_adler_16 : decode cX1_adler 16 = .ok (.iconst 0, 1) := by decide +kernel
theorem dX1_adler_17 : decode cX1_adler 17 = .ok (.istore 5, 2) := by decide +kernel
theorem dX1_adler_19 : decode cX1_adler 19 = .ok (.iload 5, 2) := by decide +kernel
theorem dX1_adler_21 : decode cX1_adler 21 = .ok (.iload_n 2, 1) := by decide +kernel
theorem dX1_adler_22 : decode cX1_adler 22 = .ok (.if_icmp .ge 33, 3) := by decide +kernel
theorem dX1_adler_25 : decode cX1_adler 25 = .ok (.iload_n 3, 1) := by decide +kernel
theorem dX1_adler_26 : decode cX1_adler 26 = .ok (.aload_n 0, 1) := by decide +kernel
theorem dX1_adler_27 : decode cX1_adler 27 = .ok (.getfield 21, 3) := by decide +kernel
theorem dX1_adler_30 : decode cX1_adler 30 = .ok (.iload_n 1, 1) := by decide +kernel
theorem dX1_adler_31 : decode cX1_adler 31 = .ok (.aaload, 1) := by decide +kernel
theorem dX1_adler_32 : decode cX1_adler 32 = .ok (.iload 5, 2) := by decide +kernel
theorem dX1_adler_34 : decode cX1_adler 34 = .ok (.iaload, 1) := by decide +kernel
theorem dX1_adler_35 : decode cX1_adler 35 = .ok (.iadd, 1) := by decide +kernel
theorem dX1_adler_36 : decode cX1_adler 36 = .ok (.ldc 131, 2) := by decide +kernel
theorem dX1_adler_38 : decode cX1_adler 38 = .ok (.irem, 1) := by decide +kernel
theorem dX1_adler_39 : decode cX1_adler 39 = .ok (.istore_n 3, 1) := by decide +kernel
theorem dX1_adler_40 : decode cX1_adler 40 = .ok (.iload 4, 2) := by decide +kernel
theorem dX1_adler_42 : decode cX1_adler 42 = .ok (.iload_n 3, 1) := by decide +kernel
theorem dX1_adler_43 : decode cX1_adler 43 = .ok (.iadd, 1) := by decide +kernel
theorem dX1_adler_44 : decode cX1_adler 44 = .ok (.ldc 131, 2) := by decide +kernel
theorem dX1_adler_46 : decode cX1_adler 46 = .ok (.irem, 1) := by decide +kernel
theorem dX1_adler_47 : decode cX1_adler 47 = .ok (.istore 4, 2) := by decide +kernel
theorem dX1_adler_49 : decode cX1_adler 49 = .ok (.iinc 5 1, 3) := by decide +kernel
theorem dX1_adler_52 : decode cX1_adler 52 = .ok (.goto (-33), 3) := by decide +kernel
theorem dX1_adler_55 : decode cX1_adler 55 = .ok (.iload_n 3, 1) := by decide +kernel
theorem dX1_adler_56 : decode cX1_adler 56 = .ok (.i2l, 1) := by decide +kernel
theorem dX1_adler_57 : decode cX1_adler 57 = .ok (.iload 4, 2) := by decide +kernel
theorem dX1_adler_59 : decode cX1_adler 59 = .ok (.i2l, 1) := by decide +kernel
theorem dX1_adler_60 : decode cX1_adler 60 = .ok (.invokestatic 132, 3) := by decide +kernel
theorem dX1_adler_63 : decode cX1_adler 63 = .ok (.ireturn, 1) := by decide +kernel
set_option maxRecDepth 20000 in
theorem ggX1_adlerJoined_X1_requireAdler : GoodIn wsX1_adlerJoined wsX1_requireAdler := goodIn_ca (goodIn_r _ [4, 5, 6, 7, 8, 9, 3, 10, 11, 12, 13, 14] (by decide +kernel) (by decide +kernel)) (goodIn_sub (fun _ h => List.mem_cons_of_mem _ (List.mem_append_right _ h)) (by decide +kernel))
set_option maxRecDepth 20000 in
theorem gX1_adlerJoined_X1_requireAdler : GoodIn wsX1_adlerJoined (va_wsS RX1 136 yX1_requireAdler wsX1_requireAdler) := goodIn_app (goodIn_of _ (by decide +kernel)) ggX1_adlerJoined_X1_requireAdler
set_option maxRecDepth 20000 in
theorem ggX1_adlerJoined_X1_requireLength : GoodIn wsX1_adlerJoined wsX1_requireLength := goodIn_ca (goodIn_r _ [17, 5, 6] (by decide +kernel) (by decide +kernel)) (goodIn_sub (fun _ h => List.mem_cons_of_mem _ (List.mem_append_right _ h)) (by decide +kernel))
set_option maxRecDepth 20000 in
theorem gX1_adlerJoined_X1_requireLength : GoodIn wsX1_adlerJoined (va_wsS RX1 109 yX1_requireLength wsX1_requireLength) := goodIn_app (goodIn_of _ (by decide +kernel)) ggX1_adlerJoined_X1_requireLength
set_option maxRecDepth 20000 in
theorem ggX1_adlerJoined_X1_adlerA : GoodIn wsX1_adlerJoined wsX1_adlerA := goodIn_r _ [10, 11] (by decide +kernel) (by decide +kernel)
set_option maxRecDepth 20000 in
theorem gX1_adlerJoined_X1_adlerA : GoodIn wsX1_adlerJoined (va_wsS RX1 139 yX1_adlerA wsX1_adlerA) := goodIn_app (goodIn_of _ (by decide +kernel)) ggX1_adlerJoined_X1_adlerA
set_option maxRecDepth 20000 in
theorem ggX1_adlerJoined_X1_adlerB : GoodIn wsX1_adlerJoined wsX1_adlerB := goodIn_r _ [14] (by decide +kernel) (by decide +kernel)
set_option maxRecDepth 20000 in
theorem gX1_adlerJoined_X1_adlerB : GoodIn wsX1_adlerJoined (va_wsS RX1 142 yX1_adlerB wsX1_adlerB) := goodIn_app (goodIn_of _ (by decide +kernel)) ggX1_adlerJoined_X1_adlerB
set_option maxRecDepth 20000 in
theorem ggX1_adlerJoined_X1_adlerSum : GoodIn wsX1_adlerJoined wsX1_adlerSum := goodIn_r _ [20, 21, 22, 23, 24, 25] (by decide +kernel) (by decide +kernel)
set_option maxRecDepth 20000 in
theorem gX1_adlerJoined_X1_adlerSum : GoodIn wsX1_adlerJoined (va_wsS RX1 132 yX1_adlerSum wsX1_adlerSum) := goodIn_app (goodIn_of _ (by decide +kernel)) ggX1_adlerJoined_X1_adlerSum
theorem dX1_adlerJoined_0 : decode cX1_adlerJoined 0 = .ok (.iload_n 1, 1) := by decide +kernel
theorem dX1_adlerJoined_1 : decode cX1_adlerJoined 1 = .ok (.invokestatic 136, 3) := by decide +kernel
theorem dX1_adlerJoined_4 : decode cX1_adlerJoined 4 = .ok (.iload_n 2, 1) := by decide +kernel
theorem dX1_adlerJoined_5 : decode cX1_adlerJoined 5 = .ok (.invokestatic 136, 3) := by decide +kernel
theorem dX1_adlerJoined_8 : decode cX1_adlerJoined 8 = .ok (.iload_n 3, 1) := by decide +kernel
theorem dX1_adlerJoined_9 : decode cX1_adlerJoined 9 = .ok (.invokestatic 109, 3) := by decide +kernel
theorem dX1_adlerJoined_12 : decode cX1_adlerJoined 12 = .ok (.iload_n 1, 1) := by decide +kernel
theorem dX1_adlerJoined_13 : decode cX1_adlerJoined 13 = .ok (.invokestatic 139, 3) := by decide +kernel
theorem dX1_adlerJoined_16 : decode cX1_adlerJoined 16 = .ok (.i2l, 1) := by decide +kernel
theorem dX1_adlerJoined_17 : decode cX1_adlerJoined 17 = .ok (.lstore 4, 2) := by decide +kernel
theorem dX1_adlerJoined_19 : decode cX1_adlerJoined 19 = .ok (.lload 4, 2) := by decide +kernel
theorem dX1_adlerJoined_21 : decode cX1_adlerJoined 21 = .ok (.iload_n 2, 1) := by decide +kernel
theorem dX1_adlerJoined_22 : decode cX1_adlerJoined 22 = .ok (.invokestatic 139, 3) := by decide +kernel
theorem dX1_adlerJoined_25 : decode cX1_adlerJoined 25 = .ok (.i2l, 1) := by decide +kernel
theorem dX1_adlerJoined_26 : decode cX1_adlerJoined 26 = .ok (.ladd, 1) := by decide +kernel
theorem dX1_adlerJoined_27 : decode cX1_adlerJoined 27 = .ok (.lconst 1, 1) := by decide +kernel
theorem dX1_adlerJoined_28 : decode cX1_adlerJoined 28 = .ok (.lsub, 1) := by decide +kernel
theorem dX1_adlerJoined_29 : decode cX1_adlerJoined 29 = .ok (.lstore 6, 2) := by decide +kernel
theorem dX1_adlerJoined_31 : decode cX1_adlerJoined 31 = .ok (.iload_n 1, 1) := by decide +kernel
theorem dX1_adlerJoined_32 : decode cX1_adlerJoined 32 = .ok (.invokestatic 142, 3) := by decide +kernel
theorem dX1_adlerJoined_35 : decode cX1_adlerJoined 35 = .ok (.i2l, 1) := by decide +kernel
theorem dX1_adlerJoined_36 : decode cX1_adlerJoined 36 = .ok (.iload_n 2, 1) := by decide +kernel
theorem dX1_adlerJoined_37 : decode cX1_adlerJoined 37 = .ok (.invokestatic 142, 3) := by decide +kernel
theorem dX1_adlerJoined_40 : decode cX1_adlerJoined 40 = .ok (.i2l, 1) := by decide +kernel
theorem dX1_adlerJoined_41 : decode cX1_adlerJoined 41 = .ok (.ladd, 1) := by decide +kernel
theorem dX1_adlerJoined_42 : decode cX1_adlerJoined 42 = .ok (.iload_n 3, 1) := by decide +kernel
theorem dX1_adlerJoined_43 : decode cX1_adlerJoined 43 = .ok (.i2l, 1) := by decide +kernel
theorem dX1_adlerJoined_44 : decode cX1_adlerJoined 44 = .ok (.lload 4, 2) := by decide +kernel
theorem dX1_adlerJoined_46 : decode cX1_adlerJoined 46 = .ok (.lconst 1, 1) := by decide +kernel
theorem dX1_adlerJoined_47 : decode cX1_adlerJoined 47 = .ok (.lsub, 1) := by decide +kernel
theorem dX1_adlerJoined_48 : decode cX1_adlerJoined 48 = .ok (.lmul, 1) := by decide +kernel
theorem dX1_adlerJoined_49 : decode cX1_adlerJoined 49 = .ok (.ladd, 1) := by decide +kernel
theorem dX1_adlerJoined_50 : decode cX1_adlerJoined 50 = .ok (.lstore 8, 2) := by decide +kernel
theorem dX1_adlerJoined_52 : decode cX1_adlerJoined 52 = .ok (.lload 6, 2) := by decide +kernel
theorem dX1_adlerJoined_54 : decode cX1_adlerJoined 54 = .ok (.lload 8, 2) := by decide +kernel
theorem dX1_adlerJoined_56 : decode cX1_adlerJoined 56 = .ok (.invokestatic 132, 3) := by decide +kernel
theorem dX1_adlerJoined_59 : decode cX1_adlerJoined 59 = .ok (.ireturn, 1) := by decide +kernel
set_option maxRecDepth 20000 in
theorem ggX1_adlerRolled_X1_requireAdler : GoodIn wsX1_adlerRolled wsX1_requireAdler := goodIn_ca (goodIn_r _ [6, 1, 2, 7, 8, 9, 5, 10, 11, 12, 13, 14] (by decide +kernel) (by decide +kernel)) (goodIn_sub (fun _ h => List.mem_cons_of_mem _ (List.mem_append_right _ h)) (by decide +kernel))
set_option maxRecDepth 20000 in
theorem gX1_adlerRolled_X1_requireAdler : GoodIn wsX1_adlerRolled (va_wsS RX1 136 yX1_requireAdler wsX1_requireAdler) := goodIn_app (goodIn_of _ (by decide +kernel)) ggX1_adlerRolled_X1_requireAdler
set_option maxRecDepth 20000 in
theorem ggX1_adlerRolled_X1_requireByte : GoodIn wsX1_adlerRolled wsX1_requireByte := goodIn_ca (goodIn_r _ [17, 1, 2] (by decide +kernel) (by decide +kernel)) (goodIn_sub (fun _ h => List.mem_cons_of_mem _ (List.mem_append_right _ h)) (by decide +kernel))
set_option maxRecDepth 20000 in
theorem gX1_adlerRolled_X1_requireByte : GoodIn wsX1_adlerRolled (va_wsS RX1 84 yX1_requireByte wsX1_requireByte) := goodIn_app (goodIn_of _ (by decide +kernel)) ggX1_adlerRolled_X1_requireByte
set_option maxRecDepth 20000 in
theorem ggX1_adlerRolled_X1_adlerA : GoodIn wsX1_adlerRolled wsX1_adlerA := goodIn_r _ [10, 11] (by decide +kernel) (by decide +kernel)
set_option maxRecDepth 20000 in
theorem gX1_adlerRolled_X1_adlerA : GoodIn wsX1_adlerRolled (va_wsS RX1 139 yX1_adlerA wsX1_adlerA) := goodIn_app (goodIn_of _ (by decide +kernel)) ggX1_adlerRolled_X1_adlerA
set_option maxRecDepth 20000 in
theorem ggX1_adlerRolled_X1_adlerB : GoodIn wsX1_adlerRolled wsX1_adlerB := goodIn_r _ [14] (by decide +kernel) (by decide +kernel)
set_option maxRecDepth 20000 in
theorem gX1_adlerRolled_X1_adlerB : GoodIn wsX1_adlerRolled (va_wsS RX1 142 yX1_adlerB wsX1_adlerB) := goodIn_app (goodIn_of _ (by decide +kernel)) ggX1_adlerRolled_X1_adlerB
set_option maxRecDepth 20000 in
theorem ggX1_adlerRolled_X1_adlerSum : GoodIn wsX1_adlerRolled wsX1_adlerSum := goodIn_r _ [20, 21, 22, 23, 24, 25] (by decide +kernel) (by decide +kernel)
set_option maxRecDepth 20000 in
theorem gX1_adlerRolled_X1_adlerSum : GoodIn wsX1_adlerRolled (va_wsS RX1 132 yX1_adlerSum wsX1_adlerSum) := goodIn_app (goodIn_of _ (by decide +kernel)) ggX1_adlerRolled_X1_adlerSum
theorem dX1_adlerRolled_0 : decode cX1_adlerRolled 0 = .ok (.iload_n 1, 1) := by decide +kernel
theorem dX1_adlerRolled_1 : decode cX1_adlerRolled 1 = .ok (.invokestatic 136, 3) := by decide +kernel
theorem dX1_adlerRolled_4 : decode cX1_adlerRolled 4 = .ok (.iload_n 2, 1) := by decide +kernel
theorem dX1_adlerRolled_5 : decode cX1_adlerRolled 5 = .ok (.iconst 1, 1) := by decide +kernel
theorem dX1_adlerRolled_6 : decode cX1_adlerRolled 6 = .ok (.if_icmp .ge 13, 3) := by decide +kernel
theorem dX1_adlerRolled_9 : decode cX1_adlerRolled 9 = .ok (.new 28, 3) := by decide +kernel
theorem dX1_adlerRolled_12 : decode cX1_adlerRolled 12 = .ok (.dup, 1) := by decide +kernel
theorem dX1_adlerRolled_13 : decode cX1_adlerRolled 13 = .ok (.ldc 145, 2) := by decide +kernel
theorem dX1_adlerRolled_15 : decode cX1_adlerRolled 15 = .ok (.invokespecial 32, 3) := by decide +kernel
theorem dX1_adlerRolled_18 : decode cX1_adlerRolled 18 = .ok (.athrow, 1) := by decide +kernel
theorem dX1_adlerRolled_19 : decode cX1_adlerRolled 19 = .ok (.iload_n 3, 1) := by decide +kernel
theorem dX1_adlerRolled_20 : decode cX1_adlerRolled 20 = .ok (.invokestatic 84, 3) := by decide +kernel
theorem dX1_adlerRolled_23 : decode cX1_adlerRolled 23 = .ok (.iload 4, 2) := by decide +kernel
theorem dX1_adlerRolled_25 : decode cX1_adlerRolled 25 = .ok (.invokestatic 84, 3) := by decide +kernel
theorem dX1_adlerRolled_28 : decode cX1_adlerRolled 28 = .ok (.iload_n 1, 1) := by decide +kernel
theorem dX1_adlerRolled_29 : decode cX1_adlerRolled 29 = .ok (.invokestatic 139, 3) := by decide +kernel
theorem dX1_adlerRolled_32 : decode cX1_adlerRolled 32 = .ok (.i2l, 1) := by decide +kernel
theorem dX1_adlerRolled_33 : decode cX1_adlerRolled 33 = .ok (.iload 4, 2) := by decide +kernel
theorem dX1_adlerRolled_35 : decode cX1_adlerRolled 35 = .ok (.i2l, 1) := by decide +kernel
theorem dX1_adlerRolled_36 : decode cX1_adlerRolled 36 = .ok (.ladd, 1) := by decide +kernel
theorem dX1_adlerRolled_37 : decode cX1_adlerRolled 37 = .ok (.iload_n 3, 1) := by decide +kernel
theorem dX1_adlerRolled_38 : decode cX1_adlerRolled 38 = .ok (.i2l, 1) := by decide +kernel
theorem dX1_adlerRolled_39 : decode cX1_adlerRolled 39 = .ok (.lsub, 1) := by decide +kernel
theorem dX1_adlerRolled_40 : decode cX1_adlerRolled 40 = .ok (.lstore 5, 2) := by decide +kernel
theorem dX1_adlerRolled_42 : decode cX1_adlerRolled 42 = .ok (.iload_n 1, 1) := by decide +kernel
theorem dX1_adlerRolled_43 : decode cX1_adlerRolled 43 = .ok (.invokestatic 142, 3) := by decide +kernel
theorem dX1_adlerRolled_46 : decode cX1_adlerRolled 46 = .ok (.i2l, 1) := by decide +kernel
theorem dX1_adlerRolled_47 : decode cX1_adlerRolled 47 = .ok (.iload_n 2, 1) := by decide +kernel
theorem dX1_adlerRolled_48 : decode cX1_adlerRolled 48 = .ok (.i2l, 1) := by decide +kernel
theorem dX1_adlerRolled_49 : decode cX1_adlerRolled 49 = .ok (.iload_n 3, 1) := by decide +kernel
theorem dX1_adlerRolled_50 : decode cX1_adlerRolled 50 = .ok (.i2l, 1) := by decide +kernel
theorem dX1_adlerRolled_51 : decode cX1_adlerRolled 51 = .ok (.lmul, 1) := by decide +kernel
theorem dX1_adlerRolled_52 : decode cX1_adlerRolled 52 = .ok (.lsub, 1) := by decide +kernel
theorem dX1_adlerRolled_53 : decode cX1_adlerRolled 53 = .ok (.lload 5, 2) := by decide +kernel
theorem dX1_adlerRolled_55 : decode cX1_adlerRolled 55 = .ok (.ladd, 1) := by decide +kernel
theorem dX1_adlerRolled_56 : decode cX1_adlerRolled 56 = .ok (.lconst 1, 1) := by decide +kernel
theorem dX1_adlerRolled_57 : decode cX1_adlerRolled 57 = .ok (.lsub, 1) := by decide +kernel
theorem dX1_adlerRolled_58 : decode cX1_adlerRolled 58 = .ok (.lstore 7, 2) := by decide +kernel
theorem dX1_adlerRolled_60 : decode cX1_adlerRolled 60 = .ok (.lload 5, 2) := by decide +kernel
theorem dX1_adlerRolled_62 : decode cX1_adlerRolled 62 = .ok (.lload 7, 2) := by decide +kernel
theorem dX1_adlerRolled_64 : decode cX1_adlerRolled 64 = .ok (.invokestatic 132, 3) := by decide +kernel
theorem dX1_adlerRolled_67 : decode cX1_adlerRolled 67 = .ok (.ireturn, 1) := by decide +kernel
theorem dX1_findModel_0 : decode cX1_findModel 0 = .ok (.iload_n 1, 1) := by decide +kernel
theorem dX1_findModel_1 : decode cX1_findModel 1 = .ok (.ifCond .lt 21, 3) := by decide +kernel
theorem dX1_findModel_4 : decode cX1_findModel 4 = .ok (.iload_n 1, 1) := by decide +kernel
theorem dX1_findModel_5 : decode cX1_findModel 5 = .ok (.aload_n 0, 1) := by decide +kernel
theorem dX1_findModel_6 : decode cX1_findModel 6 = .ok (.getfield 11, 3) := by decide +kernel
theorem dX1_findModel_9 : decode cX1_findModel 9 = .ok (.arraylength, 1) := by decide +kernel
theorem dX1_findModel_10 : decode cX1_findModel 10 = .ok (.if_icmp .ge 12, 3) := by decide +kernel
theorem dX1_findModel_13 : decode cX1_findModel 13 = .ok (.aload_n 0, 1) := by decide +kernel
theorem dX1_findModel_14 : decode cX1_findModel 14 = .ok (.getfield 11, 3) := by decide +kernel
theorem dX1_findModel_17 : decode cX1_findModel 17 = .ok (.iload_n 1, 1) := by decide +kernel
theorem dX1_findModel_18 : decode cX1_findModel 18 = .ok (.aaload, 1) := by decide +kernel
theorem dX1_findModel_19 : decode cX1_findModel 19 = .ok (.ifnonnull 13, 3) := by decide +kernel
theorem dX1_findModel_22 : decode cX1_findModel 22 = .ok (.new 101, 3) := by decide +kernel
theorem dX1_findModel_25 : decode cX1_findModel 25 = .ok (.dup, 1) := by decide +kernel
theorem dX1_findModel_26 : decode cX1_findModel 26 = .ok (.ldc 147, 2) := by decide +kernel
theorem dX1_findModel_28 : decode cX1_findModel 28 = .ok (.invokespecial 105, 3) := by decide +kernel
theorem dX1_findModel_31 : decode cX1_findModel 31 = .ok (.athrow, 1) := by decide +kernel
theorem dX1_findModel_32 : decode cX1_findModel 32 = .ok (.aload_n 0, 1) := by decide +kernel
theorem dX1_findModel_33 : decode cX1_findModel 33 = .ok (.getfield 11, 3) := by decide +kernel
theorem dX1_findModel_36 : decode cX1_findModel 36 = .ok (.iload_n 1, 1) := by decide +kernel
theorem dX1_findModel_37 : decode cX1_findModel 37 = .ok (.aaload, 1) := by decide +kernel
theorem dX1_findModel_38 : decode cX1_findModel 38 = .ok (.areturn, 1) := by decide +kernel
set_option maxRecDepth 20000 in
theorem ggX1_partSum_X0_takeByte : GoodIn wsX1_partSum wsX0_takeByte := goodIn_r _ [7, 8, 9, 10, 6, 11, 12, 13, 14, 15, 16, 17, 18, 19, 20, 21, 22, 23, 24, 25, 26, 27, 38, 39, 40, 41, 42, 43, 44, 45] (by decide +kernel) (by decide +kernel)
set_option maxRecDepth 20000 in
theorem gX1_partSum_X0_takeByte : GoodIn wsX1_partSum (wsV RX1 54 RX0 yX0_takeByte wsX0_takeByte) := goodIn_app (goodIn_of _ (by decide +kernel)) ggX1_partSum_X0_takeByte
set_option maxRecDepth 20000 in
theorem ggX1_partSum_X0_sumOfRegister : GoodIn wsX1_partSum wsX0_sumOfRegister := goodIn_r _ [31, 32, 33, 34, 35, 6, 36, 37, 20, 13, 14, 15, 38, 39, 40, 41, 42, 43, 44, 45] (by decide +kernel) (by decide +kernel)
set_option maxRecDepth 20000 in
theorem gX1_partSum_X0_sumOfRegister : GoodIn wsX1_partSum (wsV RX1 58 RX0 yX0_sumOfRegister wsX0_sumOfRegister) := goodIn_app (goodIn_of _ (by decide +kernel)) ggX1_partSum_X0_sumOfRegister
theorem dX1_partSum_0 : decode cX1_partSum 0 = .ok (.aload_n 1, 1) := by decide +kernel
theorem dX1_partSum_1 : decode cX1_partSum 1 = .ok (.getfield 51, 3) := by decide +kernel
theorem dX1_partSum_4 : decode cX1_partSum 4 = .ok (.istore 5, 2) := by decide +kernel
theorem dX1_partSum_6 : decode cX1_partSum 6 = .ok (.iload_n 3, 1) := by decide +kernel
theorem dX1_partSum_7 : decode cX1_partSum 7 = .ok (.istore 6, 2) := by decide +kernel
theorem dX1_partSum_9 : decode cX1_partSum 9 = .ok (.iload 6, 2) := by decide +kernel
theorem dX1_partSum_11 : decode cX1_partSum 11 = .ok (.iload 4, 2) := by decide +kernel
theorem dX1_partSum_13 : decode cX1_partSum 13 = .ok (.if_icmp .ge 26, 3) := by decide +kernel
theorem dX1_partSum_16 : decode cX1_partSum 16 = .ok (.aload_n 1, 1) := by decide +kernel
theorem dX1_partSum_17 : decode cX1_partSum 17 = .ok (.iload 5, 2) := by decide +kernel
theorem dX1_partSum_19 : decode cX1_partSum 19 = .ok (.aload_n 0, 1) := by decide +kernel
theorem dX1_partSum_20 : decode cX1_partSum 20 = .ok (.getfield 21, 3) := by decide +kernel
theorem dX1_partSum_23 : decode cX1_partSum 23 = .ok (.iload_n 2, 1) := by decide +kernel
theorem dX1_partSum_24 : decode cX1_partSum 24 = .ok (.aaload, 1) := by decide +kernel
theorem dX1_partSum_25 : decode cX1_partSum 25 = .ok (.iload 6, 2) := by decide +kernel
theorem dX1_partSum_27 : decode cX1_partSum 27 = .ok (.iaload, 1) := by decide +kernel
theorem dX1_partSum_28 : decode cX1_partSum 28 = .ok (.invokevirtual 54, 3) := by decide +kernel
theorem dX1_partSum_31 : decode cX1_partSum 31 = .ok (.istore 5, 2) := by decide +kernel
theorem dX1_partSum_33 : decode cX1_partSum 33 = .ok (.iinc 6 1, 3) := by decide +kernel
theorem dX1_partSum_36 : decode cX1_partSum 36 = .ok (.goto (-27), 3) := by decide +kernel
theorem dX1_partSum_39 : decode cX1_partSum 39 = .ok (.aload_n 1, 1) := by decide +kernel
theorem dX1_partSum_40 : decode cX1_partSum 40 = .ok (.iload 5, 2) := by decide +kernel
theorem dX1_partSum_42 : decode cX1_partSum 42 = .ok (.invokevirtual 58, 3) := by decide +kernel
theorem dX1_partSum_45 : decode cX1_partSum 45 = .ok (.ireturn, 1) := by decide +kernel
theorem dX1_requireRow_0 : decode cX1_requireRow 0 = .ok (.iload_n 0, 1) := by decide +kernel
theorem dX1_requireRow_1 : decode cX1_requireRow 1 = .ok (.ifCond .lt 8, 3) := by decide +kernel
theorem dX1_requireRow_4 : decode cX1_requireRow 4 = .ok (.iload_n 0, 1) := by decide +kernel
theorem dX1_requireRow_5 : decode cX1_requireRow 5 = .ok (.iconst 4, 1) := by decide +kernel
theorem dX1_requireRow_6 : decode cX1_requireRow 6 = .ok (.if_icmp .lt 13, 3) := by decide +kernel
theorem dX1_requireRow_9 : decode cX1_requireRow 9 = .ok (.new 101, 3) := by decide +kernel
theorem dX1_requireRow_12 : decode cX1_requireRow 12 = .ok (.dup, 1) := by decide +kernel
theorem dX1_requireRow_13 : decode cX1_requireRow 13 = .ok (.ldc 149, 2) := by decide +kernel
theorem dX1_requireRow_15 : decode cX1_requireRow 15 = .ok (.invokespecial 105, 3) := by decide +kernel
theorem dX1_requireRow_18 : decode cX1_requireRow 18 = .ok (.athrow, 1) := by decide +kernel
theorem dX1_requireRow_19 : decode cX1_requireRow 19 = .ok (.return_, 1) := by decide +kernel
theorem dX1_requireIndex_0 : decode cX1_requireIndex 0 = .ok (.iload_n 2, 1) := by decide +kernel
theorem dX1_requireIndex_1 : decode cX1_requireIndex 1 = .ok (.ifCond .lt 13, 3) := by decide +kernel
theorem dX1_requireIndex_4 : decode cX1_requireIndex 4 = .ok (.iload_n 2, 1) := by decide +kernel
theorem dX1_requireIndex_5 : decode cX1_requireIndex 5 = .ok (.aload_n 0, 1) := by decide +kernel
theorem dX1_requireIndex_6 : decode cX1_requireIndex 6 = .ok (.getfield 24, 3) := by decide +kernel
theorem dX1_requireIndex_9 : decode cX1_requireIndex 9 = .ok (.iload_n 1, 1) := by decide +kernel
theorem dX1_requireIndex_10 : decode cX1_requireIndex 10 = .ok (.iaload, 1) := by decide +kernel
theorem dX1_requireIndex_11 : decode cX1_requireIndex 11 = .ok (.if_icmp .lt 13, 3) := by decide +kernel
theorem dX1_requireIndex_14 : decode cX1_requireIndex 14 = .ok (.new 101, 3) := by decide +kernel
theorem dX1_requireIndex_17 : decode cX1_requireIndex 17 = .ok (.dup, 1) := by decide +kernel
theorem dX1_requireIndex_18 : decode cX1_requireIndex 18 = .ok (.ldc 151, 2) := by decide +kernel
theorem dX1_requireIndex_20 : decode cX1_requireIndex 20 = .ok (.invokespecial 105, 3) := by decide +kernel
theorem dX1_requireIndex_23 : decode cX1_requireIndex 23 = .ok (.athrow, 1) := by decide +kernel
theorem dX1_requireIndex_24 : decode cX1_requireIndex 24 = .ok (.return_, 1) := by decide +kernel
theorem dX1_requireRoom_0 : decode cX1_requireRoom 0 = .ok (.iload_n 2, 1) := by decide +kernel
theorem dX1_requireRoom_1 : decode cX1_requireRoom 1 = .ok (.sipush 256, 3) := by decide +kernel
theorem dX1_requireRoom_4 : decode cX1_requireRoom 4 = .ok (.aload_n 0, 1) := by decide +kernel
theorem dX1_requireRoom_5 : decode cX1_requireRoom 5 = .ok (.getfield 24, 3) := by decide +kernel
theorem dX1_requireRoom_8 : decode cX1_requireRoom 8 = .ok (.iload_n 1, 1) := by decide +kernel
theorem dX1_requireRoom_9 : decode cX1_requireRoom 9 = .ok (.iaload, 1) := by decide +kernel
theorem dX1_requireRoom_10 : decode cX1_requireRoom 10 = .ok (.isub, 1) := by decide +kernel
theorem dX1_requireRoom_11 : decode cX1_requireRoom 11 = .ok (.if_icmp .le 13, 3) := by decide +kernel
theorem dX1_requireRoom_14 : decode cX1_requireRoom 14 = .ok (.new 39, 3) := by decide +kernel
theorem dX1_requireRoom_17 : decode cX1_requireRoom 17 = .ok (.dup, 1) := by decide +kernel
theorem dX1_requireRoom_18 : decode cX1_requireRoom 18 = .ok (.ldc 153, 2) := by decide +kernel
theorem dX1_requireRoom_20 : decode cX1_requireRoom 20 = .ok (.invokespecial 43, 3) := by decide +kernel
theorem dX1_requireRoom_23 : decode cX1_requireRoom 23 = .ok (.athrow, 1) := by decide +kernel
theorem dX1_requireRoom_24 : decode cX1_requireRoom 24 = .ok (.return_, 1) := by decide +kernel
theorem dX1_requireByte_0 : decode cX1_requireByte 0 = .ok (.iload_n 0, 1) := by decide +kernel
theorem dX1_requireByte_1 : decode cX1_requireByte 1 = .ok (.ifCond .lt 10, 3) := by decide +kernel
theorem dX1_requireByte_4 : decode cX1_requireByte 4 = .ok (.iload_n 0, 1) := by decide +kernel
theorem dX1_requireByte_5 : decode cX1_requireByte 5 = .ok (.sipush 255, 3) := by decide +kernel
theorem dX1_requireByte_8 : decode cX1_requireByte 8 = .ok (.if_icmp .le 13, 3) := by decide +kernel
theorem dX1_requireByte_11 : decode cX1_requireByte 11 = .ok (.new 28, 3) := by decide +kernel
theorem dX1_requireByte_14 : decode cX1_requireByte 14 = .ok (.dup, 1) := by decide +kernel
theorem dX1_requireByte_15 : decode cX1_requireByte 15 = .ok (.ldc 155, 2) := by decide +kernel
theorem dX1_requireByte_17 : decode cX1_requireByte 17 = .ok (.invokespecial 32, 3) := by decide +kernel
theorem dX1_requireByte_20 : decode cX1_requireByte 20 = .ok (.athrow, 1) := by decide +kernel
theorem dX1_requireByte_21 : decode cX1_requireByte 21 = .ok (.return_, 1) := by decide +kernel
theorem dX1_requireLength_0 : decode cX1_requireLength 0 = .ok (.iload_n 0, 1) := by decide +kernel
theorem dX1_requireLength_1 : decode cX1_requireLength 1 = .ok (.ifCond .ge 13, 3) := by decide +kernel
theorem dX1_requireLength_4 : decode cX1_requireLength 4 = .ok (.new 28, 3) := by decide +kernel
theorem dX1_requireLength_7 : decode cX1_requireLength 7 = .ok (.dup, 1) := by decide +kernel
theorem dX1_requireLength_8 : decode cX1_requireLength 8 = .ok (.ldc 157, 2) := by decide +kernel
theorem dX1_requireLength_10 : decode cX1_requireLength 10 = .ok (.invokespecial 32, 3) := by decide +kernel
theorem dX1_requireLength_13 : decode cX1_requireLength 13 = .ok (.athrow, 1) := by decide +kernel
theorem dX1_requireLength_14 : decode cX1_requireLength 14 = .ok (.return_, 1) := by decide +kernel
theorem dX1_requireNumber_0 : decode cX1_requireNumber 0 = .ok (.iload_n 0, 1) := by decide +kernel
theorem dX1_requireNumber_1 : decode cX1_requireNumber 1 = .ok (.bipush 32, 2) := by decide +kernel
theorem dX1_requireNumber_3 : decode cX1_requireNumber 3 = .ok (.if_icmp .ge 19, 3) := by decide +kernel
theorem dX1_requireNumber_6 : decode cX1_requireNumber 6 = .ok (.iload_n 1, 1) := by decide +kernel
theorem dX1_requireNumber_7 : decode cX1_requireNumber 7 = .ok (.iload_n 0, 1) := by decide +kernel
theorem dX1_requireNumber_8 : decode cX1_requireNumber 8 = .ok (.iushr, 1) := by decide +kernel
theorem dX1_requireNumber_9 : decode cX1_requireNumber 9 = .ok (.ifCond .eq 13, 3) := by decide +kernel
theorem dX1_requireNumber_12 : decode cX1_requireNumber 12 = .ok (.new 28, 3) := by decide +kernel
theorem dX1_requireNumber_15 : decode cX1_requireNumber 15 = .ok (.dup, 1) := by decide +kernel
theorem dX1_requireNumber_16 : decode cX1_requireNumber 16 = .ok (.ldc 159, 2) := by decide +kernel
theorem dX1_requireNumber_18 : decode cX1_requireNumber 18 = .ok (.invokespecial 32, 3) := by decide +kernel
theorem dX1_requireNumber_21 : decode cX1_requireNumber 21 = .ok (.athrow, 1) := by decide +kernel
theorem dX1_requireNumber_22 : decode cX1_requireNumber 22 = .ok (.return_, 1) := by decide +kernel
theorem dX1_requireFletcher_0 : decode cX1_requireFletcher 0 = .ok (.iload_n 0, 1) := by decide +kernel
theorem dX1_requireFletcher_1 : decode cX1_requireFletcher 1 = .ok (.ifCond .lt 25, 3) := by decide +kernel
theorem dX1_requireFletcher_4 : decode cX1_requireFletcher 4 = .ok (.iload_n 0, 1) := by decide +kernel
theorem dX1_requireFletcher_5 : decode cX1_requireFletcher 5 = .ok (.sipush 256, 3) := by decide +kernel
theorem dX1_requireFletcher_8 : decode cX1_requireFletcher 8 = .ok (.idiv, 1) := by decide +kernel
theorem dX1_requireFletcher_9 : decode cX1_requireFletcher 9 = .ok (.sipush 255, 3) := by decide +kernel
theorem dX1_requireFletcher_12 : decode cX1_requireFletcher 12 = .ok (.if_icmp .ge 14, 3) := by decide +kernel
theorem dX1_requireFletcher_15 : decode cX1_requireFletcher 15 = .ok (.iload_n 0, 1) := by decide +kernel
theorem dX1_requireFletcher_16 : decode cX1_requireFletcher 16 = .ok (.sipush 256, 3) := by decide +kernel
theorem dX1_requireFletcher_19 : decode cX1_requireFletcher 19 = .ok (.irem, 1) := by decide +kernel
theorem dX1_requireFletcher_20 : decode cX1_requireFletcher 20 = .ok (.sipush 255, 3) := by decide +kernel
theorem dX1_requireFletcher_23 : decode cX1_requireFletcher 23 = .ok (.if_icmp .lt 13, 3) := by decide +kernel
theorem dX1_requireFletcher_26 : decode cX1_requireFletcher 26 = .ok (.new 28, 3) := by decide +kernel
theorem dX1_requireFletcher_29 : decode cX1_requireFletcher 29 = .ok (.dup, 1) := by decide +kernel
theorem dX1_requireFletcher_30 : decode cX1_requireFletcher 30 = .ok (.ldc 161, 2) := by decide +kernel
theorem dX1_requireFletcher_32 : decode cX1_requireFletcher 32 = .ok (.invokespecial 32, 3) := by decide +kernel
theorem dX1_requireFletcher_35 : decode cX1_requireFletcher 35 = .ok (.athrow, 1) := by decide +kernel
theorem dX1_requireFletcher_36 : decode cX1_requireFletcher 36 = .ok (.return_, 1) := by decide +kernel
set_option maxRecDepth 20000 in
theorem ggX1_requireAdler_X1_adlerA : GoodIn wsX1_requireAdler wsX1_adlerA := goodIn_r _ [7, 8] (by decide +kernel) (by decide +kernel)
set_option maxRecDepth 20000 in
theorem gX1_requireAdler_X1_adlerA : GoodIn wsX1_requireAdler (va_wsS RX1 139 yX1_adlerA wsX1_adlerA) := goodIn_app (goodIn_of _ (by decide +kernel)) ggX1_requireAdler_X1_adlerA
set_option maxRecDepth 20000 in
theorem ggX1_requireAdler_X1_adlerB : GoodIn wsX1_requireAdler wsX1_adlerB := goodIn_r _ [11] (by decide +kernel) (by decide +kernel)
set_option maxRecDepth 20000 in
theorem gX1_requireAdler_X1_adlerB : GoodIn wsX1_requireAdler (va_wsS RX1 142 yX1_adlerB wsX1_adlerB) := goodIn_app (goodIn_of _ (by decide +kernel)) ggX1_requireAdler_X1_adlerB
theorem dX1_requireAdler_0 : decode cX1_requireAdler 0 = .ok (.iload_n 0, 1) := by decide +kernel
theorem dX1_requireAdler_1 : decode cX1_requireAdler 1 = .ok (.invokestatic 139, 3) := by decide +kernel
theorem dX1_requireAdler_4 : decode cX1_requireAdler 4 = .ok (.ldc 131, 2) := by decide +kernel
theorem dX1_requireAdler_6 : decode cX1_requireAdler 6 = .ok (.if_icmp .ge 12, 3) := by decide +kernel
theorem dX1_requireAdler_9 : decode cX1_requireAdler 9 = .ok (.iload_n 0, 1) := by decide +kernel
theorem dX1_requireAdler_10 : decode cX1_requireAdler 10 = .ok (.invokestatic 142, 3) := by decide +kernel
theorem dX1_requireAdler_13 : decode cX1_requireAdler 13 = .ok (.ldc 131, 2) := by decide +kernel
theorem dX1_requireAdler_15 : decode cX1_requireAdler 15 = .ok (.if_icmp .lt 13, 3) := by decide +kernel
theorem dX1_requireAdler_18 : decode cX1_requireAdler 18 = .ok (.new 28, 3) := by decide +kernel
theorem dX1_requireAdler_21 : decode cX1_requireAdler 21 = .ok (.dup, 1) := by decide +kernel
theorem dX1_requireAdler_22 : decode cX1_requireAdler 22 = .ok (.ldc 163, 2) := by decide +kernel
theorem dX1_requireAdler_24 : decode cX1_requireAdler 24 = .ok (.invokespecial 32, 3) := by decide +kernel
theorem dX1_requireAdler_27 : decode cX1_requireAdler 27 = .ok (.athrow, 1) := by decide +kernel
theorem dX1_requireAdler_28 : decode cX1_requireAdler 28 = .ok (.return_, 1) := by decide +kernel
theorem dX1_adlerA_0 : decode cX1_adlerA 0 = .ok (.iload_n 0, 1) := by decide +kernel
theorem dX1_adlerA_1 : decode cX1_adlerA 1 = .ok (.ldc 165, 2) := by decide +kernel
theorem dX1_adlerA_3 : decode cX1_adlerA 3 = .ok (.iand, 1) := by decide +kernel
theorem dX1_adlerA_4 : decode cX1_adlerA 4 = .ok (.ireturn, 1) := by decide +kernel
theorem dX1_adlerB_0 : decode cX1_adlerB 0 = .ok (.iload_n 0, 1) := by decide +kernel
theorem dX1_adlerB_1 : decode cX1_adlerB 1 = .ok (.bipush 16, 2) := by decide +kernel
theorem dX1_adlerB_3 : decode cX1_adlerB 3 = .ok (.iushr, 1) := by decide +kernel
theorem dX1_adlerB_4 : decode cX1_adlerB 4 = .ok (.ireturn, 1) := by decide +kernel
set_option maxRecDepth 20000 in
theorem ggX1_adlerSum_J9_floorMod_f86c9 : GoodIn wsX1_adlerSum wsJ9_floorMod_f86c9 := goodIn_r _ [5] (by decide +kernel) (by decide +kernel)
set_option maxRecDepth 20000 in
theorem gX1_adlerSum_J9_floorMod_f86c9 : GoodIn wsX1_adlerSum (va_wsS RX1 168 yJ9_floorMod_f86c9 wsJ9_floorMod_f86c9) := goodIn_app (goodIn_of _ (by decide +kernel)) ggX1_adlerSum_J9_floorMod_f86c9
theorem dX1_adlerSum_0 : decode cX1_adlerSum 0 = .ok (.lload_n 0, 1) := by decide +kernel
theorem dX1_adlerSum_1 : decode cX1_adlerSum 1 = .ok (.ldc2_w 166, 3) := by decide +kernel
theorem dX1_adlerSum_4 : decode cX1_adlerSum 4 = .ok (.invokestatic 168, 3) := by decide +kernel
theorem dX1_adlerSum_7 : decode cX1_adlerSum 7 = .ok (.l2i, 1) := by decide +kernel
theorem dX1_adlerSum_8 : decode cX1_adlerSum 8 = .ok (.istore 4, 2) := by decide +kernel
theorem dX1_adlerSum_10 : decode cX1_adlerSum 10 = .ok (.lload_n 2, 1) := by decide +kernel
theorem dX1_adlerSum_11 : decode cX1_adlerSum 11 = .ok (.ldc2_w 166, 3) := by decide +kernel
theorem dX1_adlerSum_14 : decode cX1_adlerSum 14 = .ok (.invokestatic 168, 3) := by decide +kernel
theorem dX1_adlerSum_17 : decode cX1_adlerSum 17 = .ok (.l2i, 1) := by decide +kernel
theorem dX1_adlerSum_18 : decode cX1_adlerSum 18 = .ok (.istore 5, 2) := by decide +kernel
theorem dX1_adlerSum_20 : decode cX1_adlerSum 20 = .ok (.iload 5, 2) := by decide +kernel
theorem dX1_adlerSum_22 : decode cX1_adlerSum 22 = .ok (.bipush 16, 2) := by decide +kernel
theorem dX1_adlerSum_24 : decode cX1_adlerSum 24 = .ok (.ishl, 1) := by decide +kernel
theorem dX1_adlerSum_25 : decode cX1_adlerSum 25 = .ok (.iload 4, 2) := by decide +kernel
theorem dX1_adlerSum_27 : decode cX1_adlerSum 27 = .ok (.iadd, 1) := by decide +kernel
theorem dX1_adlerSum_28 : decode cX1_adlerSum 28 = .ok (.ireturn, 1) := by decide +kernel
