theorem dX2_joined_0 : decode cX2_joined 0 = .ok (.aload_n 0, 1) := by decide +kernel
theorem dX2_joined_1 : decode cX2_joined 1 = .ok (.iload_n 1, 1) := by decide +kernel
theorem dX2_joined_2 : decode cX2_joined 2 = .ok (.invokevirtual 65, 3) := by decide +kernel
theorem dX2_joined_5 : decode cX2_joined 5 = .ok (.istore 5, 2) := by decide +kernel
theorem dX2_joined_7 : decode cX2_joined 7 = .ok (.aload_n 0, 1) := by decide +kernel
theorem dX2_joined_8 : decode cX2_joined 8 = .ok (.iload 5, 2) := by decide +kernel
theorem dX2_joined_10 : decode cX2_joined 10 = .ok (.iload 5, 2) := by decide +kernel
theorem dX2_joined_12 : decode cX2_joined 12 = .ok (.ifCond .eq 30, 3) := by decide +kernel
theorem dX2_joined_15 : decode cX2_joined 15 = .ok (.aload_n 0, 1) := by decide +kernel
theorem dX2_joined_16 : decode cX2_joined 16 = .ok (.iload_n 1, 1) := by decide +kernel
theorem dX2_joined_17 : decode cX2_joined 17 = .ok (.iload_n 2, 1) := by decide +kernel
theorem dX2_joined_18 : decode cX2_joined 18 = .ok (.invokevirtual 79, 3) := by decide +kernel
theorem dX2_joined_21 : decode cX2_joined 21 = .ok (.ifCond .eq 21, 3) := by decide +kernel
theorem dX2_joined_24 : decode cX2_joined 24 = .ok (.aload_n 0, 1) := by decide +kernel
theorem dX2_joined_25 : decode cX2_joined 25 = .ok (.iload_n 1, 1) := by decide +kernel
theorem dX2_joined_26 : decode cX2_joined 26 = .ok (.iload_n 3, 1) := by decide +kernel
theorem dX2_joined_27 : decode cX2_joined 27 = .ok (.invokevirtual 79, 3) := by decide +kernel
theorem dX2_joined_30 : decode cX2_joined 30 = .ok (.ifCond .eq 12, 3) := by decide +kernel
theorem dX2_joined_33 : decode cX2_joined 33 = .ok (.iload 4, 2) := by decide +kernel
theorem dX2_joined_35 : decode cX2_joined 35 = .ok (.ifCond .lt 7, 3) := by decide +kernel
theorem dX2_joined_38 : decode cX2_joined 38 = .ok (.iconst 1, 1) := by decide +kernel
theorem dX2_joined_39 : decode cX2_joined 39 = .ok (.goto 4, 3) := by decide +kernel
theorem dX2_joined_42 : decode cX2_joined 42 = .ok (.iconst 0, 1) := by decide +kernel
theorem dX2_joined_43 : decode cX2_joined 43 = .ok (.invokevirtual 61, 3) := by decide +kernel
theorem dX2_joined_46 : decode cX2_joined 46 = .ok (.ifCond .ne 5, 3) := by decide +kernel
theorem dX2_joined_49 : decode cX2_joined 49 = .ok (.iconst 0, 1) := by decide +kernel
theorem dX2_joined_50 : decode cX2_joined 50 = .ok (.ireturn, 1) := by decide +kernel
theorem dX2_joined_51 : decode cX2_joined 51 = .ok (.aload_n 0, 1) := by decide +kernel
theorem dX2_joined_52 : decode cX2_joined 52 = .ok (.iload_n 1, 1) := by decide +kernel
theorem dX2_joined_53 : decode cX2_joined 53 = .ok (.iload_n 2, 1) := by decide +kernel
theorem dX2_joined_54 : decode cX2_joined 54 = .ok (.invokevirtual 103, 3) := by decide +kernel
theorem dX2_joined_57 : decode cX2_joined 57 = .ok (.aload_n 0, 1) := by decide +kernel
theorem dX2_joined_58 : decode cX2_joined 58 = .ok (.getfield 16, 3) := by decide +kernel
theorem dX2_joined_61 : decode cX2_joined 61 = .ok (.iload_n 1, 1) := by decide +kernel
theorem dX2_joined_62 : decode cX2_joined 62 = .ok (.iaload, 1) := by decide +kernel
theorem dX2_joined_63 : decode cX2_joined 63 = .ok (.ixor, 1) := by decide +kernel
theorem dX2_joined_64 : decode cX2_joined 64 = .ok (.istore 6, 2) := by decide +kernel
theorem dX2_joined_66 : decode cX2_joined 66 = .ok (.aload_n 0, 1) := by decide +kernel
theorem dX2_joined_67 : decode cX2_joined 67 = .ok (.iload_n 1, 1) := by decide +kernel
theorem dX2_joined_68 : decode cX2_joined 68 = .ok (.iload_n 3, 1) := by decide +kernel
theorem dX2_joined_69 : decode cX2_joined 69 = .ok (.invokevirtual 103, 3) := by decide +kernel
theorem dX2_joined_72 : decode cX2_joined 72 = .ok (.istore 7, 2) := by decide +kernel
theorem dX2_joined_74 : decode cX2_joined 74 = .ok (.aload_n 0, 1) := by decide +kernel
theorem dX2_joined_75 : decode cX2_joined 75 = .ok (.iload_n 1, 1) := by decide +kernel
theorem dX2_joined_76 : decode cX2_joined 76 = .ok (.iload 7, 2) := by decide +kernel
theorem dX2_joined_78 : decode cX2_joined 78 = .ok (.aload_n 0, 1) := by decide +kernel
theorem dX2_joined_79 : decode cX2_joined 79 = .ok (.iload_n 1, 1) := by decide +kernel
theorem dX2_joined_80 : decode cX2_joined 80 = .ok (.iload 6, 2) := by decide +kernel
theorem dX2_joined_82 : decode cX2_joined 82 = .ok (.aload_n 0, 1) := by decide +kernel
theorem dX2_joined_83 : decode cX2_joined 83 = .ok (.iload_n 1, 1) := by decide +kernel
theorem dX2_joined_84 : decode cX2_joined 84 = .ok (.ldc2_w 106, 3) := by decide +kernel
theorem dX2_joined_87 : decode cX2_joined 87 = .ok (.iload 4, 2) := by decide +kernel
theorem dX2_joined_89 : decode cX2_joined 89 = .ok (.i2l, 1) := by decide +kernel
theorem dX2_joined_90 : decode cX2_joined 90 = .ok (.lmul, 1) := by decide +kernel
theorem dX2_joined_91 : decode cX2_joined 91 = .ok (.invokevirtual 82, 3) := by decide +kernel
theorem dX2_joined_94 : decode cX2_joined 94 = .ok (.aload_n 0, 1) := by decide +kernel
theorem dX2_joined_95 : decode cX2_joined 95 = .ok (.getfield 7, 3) := by decide +kernel
theorem dX2_joined_98 : decode cX2_joined 98 = .ok (.iload_n 1, 1) := by decide +kernel
theorem dX2_joined_99 : decode cX2_joined 99 = .ok (.iaload, 1) := by decide +kernel
theorem dX2_joined_100 : decode cX2_joined 100 = .ok (.invokevirtual 54, 3) := by decide +kernel
theorem dX2_joined_103 : decode cX2_joined 103 = .ok (.ixor, 1) := by decide +kernel
theorem dX2_joined_104 : decode cX2_joined 104 = .ok (.invokevirtual 76, 3) := by decide +kernel
theorem dX2_joined_107 : decode cX2_joined 107 = .ok (.ireturn, 1) := by decide +kernel
set_option maxRecDepth 20000 in
theorem ggX2_patched_X2_isModel : GoodIn wsX2_patched wsX2_isModel := goodIn_r _ [8, 9, 10, 11, 7, 12, 54, 55, 56, 57, 58, 59, 60, 61, 62, 63] (by decide +kernel) (by decide +kernel)
set_option maxRecDepth 20000 in
theorem gX2_patched_X2_isModel : GoodIn wsX2_patched (wsV RX2 65 RX2 yX2_isModel wsX2_isModel) := goodIn_app (goodIn_of _ (by decide +kernel)) ggX2_patched_X2_isModel
set_option maxRecDepth 20000 in
theorem ggX2_patched_X2_isNumber : GoodIn wsX2_patched wsX2_isNumber := goodIn_r _ [16, 3, 17, 18, 7, 19, 54, 55, 56, 57, 58, 59, 60, 61, 62, 63] (by decide +kernel) (by decide +kernel)
set_option maxRecDepth 20000 in
theorem gX2_patched_X2_isNumber : GoodIn wsX2_patched (wsV RX2 79 RX2 yX2_isNumber wsX2_isNumber) := goodIn_app (goodIn_of _ (by decide +kernel)) ggX2_patched_X2_isNumber
set_option maxRecDepth 20000 in
theorem ggX2_patched_X2_isByte : GoodIn wsX2_patched wsX2_isByte := goodIn_r _ [22, 10, 11, 7, 12] (by decide +kernel) (by decide +kernel)
set_option maxRecDepth 20000 in
theorem gX2_patched_X2_isByte : GoodIn wsX2_patched (va_wsS RX2 90 yX2_isByte wsX2_isByte) := goodIn_app (goodIn_of _ (by decide +kernel)) ggX2_patched_X2_isByte
set_option maxRecDepth 20000 in
theorem ggX2_patched_X2_asked_ : GoodIn wsX2_patched wsX2_asked_ := goodIn_r _ [26, 27, 54, 55, 56, 57, 58, 59, 60, 61, 62, 63] (by decide +kernel) (by decide +kernel)
set_option maxRecDepth 20000 in
theorem gX2_patched_X2_asked_ : GoodIn wsX2_patched (wsV RX2 61 RX2 yX2_asked_ wsX2_asked_) := goodIn_app (goodIn_of _ (by decide +kernel)) ggX2_patched_X2_asked_
set_option maxRecDepth 20000 in
theorem ggX2_patched_X2_reversed : GoodIn wsX2_patched wsX2_reversed := goodIn_r _ [30] (by decide +kernel) (by decide +kernel)
set_option maxRecDepth 20000 in
theorem gX2_patched_X2_reversed : GoodIn wsX2_patched (va_wsS RX2 58 yX2_reversed wsX2_reversed) := goodIn_app (goodIn_of _ (by decide +kernel)) ggX2_patched_X2_reversed
set_option maxRecDepth 20000 in
theorem ggX2_patched_X2_powerOf : GoodIn wsX2_patched wsX2_powerOf := goodIn_r _ [34, 3, 35, 36, 37, 7, 38, 39, 40, 41, 42, 43, 54, 55, 56, 57, 58, 59, 60, 61, 62, 63] (by decide +kernel) (by decide +kernel)
set_option maxRecDepth 20000 in
theorem gX2_patched_X2_powerOf : GoodIn wsX2_patched (wsV RX2 82 RX2 yX2_powerOf wsX2_powerOf) := goodIn_app (goodIn_of _ (by decide +kernel)) ggX2_patched_X2_powerOf
set_option maxRecDepth 20000 in
theorem ggX2_patched_X2_registerOf : GoodIn wsX2_patched wsX2_registerOf := goodIn_r _ [47, 48, 49, 3, 28, 29, 7, 30, 54, 55, 56, 57, 58, 59, 60, 61, 62, 63] (by decide +kernel) (by decide +kernel)
set_option maxRecDepth 20000 in
theorem gX2_patched_X2_registerOf : GoodIn wsX2_patched (wsV RX2 103 RX2 yX2_registerOf wsX2_registerOf) := goodIn_app (goodIn_of _ (by decide +kernel)) ggX2_patched_X2_registerOf
set_option maxRecDepth 20000 in
theorem ggX2_patched_X2_times : GoodIn wsX2_patched wsX2_times := goodIn_r _ [38, 39, 40, 41, 7, 42, 3, 43, 54, 55, 56, 57, 58, 59, 60, 61, 62, 63] (by decide +kernel) (by decide +kernel)
set_option maxRecDepth 20000 in
theorem gX2_patched_X2_times : GoodIn wsX2_patched (wsV RX2 54 RX2 yX2_times wsX2_times) := goodIn_app (goodIn_of _ (by decide +kernel)) ggX2_patched_X2_times
set_option maxRecDepth 20000 in
theorem ggX2_patched_X2_sumOf : GoodIn wsX2_patched wsX2_sumOf := goodIn_r _ [53, 49, 3, 48, 28, 29, 7, 30, 54, 55, 56, 57, 58, 59, 60, 61, 62, 63] (by decide +kernel) (by decide +kernel)
set_option maxRecDepth 20000 in
theorem gX2_patched_X2_sumOf : GoodIn wsX2_patched (wsV RX2 76 RX2 yX2_sumOf wsX2_sumOf) := goodIn_app (goodIn_of _ (by decide +kernel)) ggX2_patched_X2_sumOf
theorem dX2_patched_0 : decode cX2_patched 0 = .ok (.aload_n 0, 1) := by decide +kernel
theorem dX2_patched_1 : decode cX2_patched 1 = .ok (.iload_n 1, 1) := by decide +kernel
theorem dX2_patched_2 : decode cX2_patched 2 = .ok (.invokevirtual 65, 3) := by decide +kernel
theorem dX2_patched_5 : decode cX2_patched 5 = .ok (.istore 5, 2) := by decide +kernel
theorem dX2_patched_7 : decode cX2_patched 7 = .ok (.aload_n 0, 1) := by decide +kernel
theorem dX2_patched_8 : decode cX2_patched 8 = .ok (.iload 5, 2) := by decide +kernel
theorem dX2_patched_10 : decode cX2_patched 10 = .ok (.iload 5, 2) := by decide +kernel
theorem dX2_patched_12 : decode cX2_patched 12 = .ok (.ifCond .eq 28, 3) := by decide +kernel
theorem dX2_patched_15 : decode cX2_patched 15 = .ok (.aload_n 0, 1) := by decide +kernel
theorem dX2_patched_16 : decode cX2_patched 16 = .ok (.iload_n 1, 1) := by decide +kernel
theorem dX2_patched_17 : decode cX2_patched 17 = .ok (.iload_n 2, 1) := by decide +kernel
theorem dX2_patched_18 : decode cX2_patched 18 = .ok (.invokevirtual 79, 3) := by decide +kernel
theorem dX2_patched_21 : decode cX2_patched 21 = .ok (.ifCond .eq 19, 3) := by decide +kernel
theorem dX2_patched_24 : decode cX2_patched 24 = .ok (.iload_n 3, 1) := by decide +kernel
theorem dX2_patched_25 : decode cX2_patched 25 = .ok (.ifCond .lt 15, 3) := by decide +kernel
theorem dX2_patched_28 : decode cX2_patched 28 = .ok (.iload 4, 2) := by decide +kernel
theorem dX2_patched_30 : decode cX2_patched 30 = .ok (.invokestatic 90, 3) := by decide +kernel
theorem dX2_patched_33 : decode cX2_patched 33 = .ok (.ifCond .eq 7, 3) := by decide +kernel
theorem dX2_patched_36 : decode cX2_patched 36 = .ok (.iconst 1, 1) := by decide +kernel
theorem dX2_patched_37 : decode cX2_patched 37 = .ok (.goto 4, 3) := by decide +kernel
theorem dX2_patched_40 : decode cX2_patched 40 = .ok (.iconst 0, 1) := by decide +kernel
theorem dX2_patched_41 : decode cX2_patched 41 = .ok (.invokevirtual 61, 3) := by decide +kernel
theorem dX2_patched_44 : decode cX2_patched 44 = .ok (.ifCond .ne 5, 3) := by decide +kernel
theorem dX2_patched_47 : decode cX2_patched 47 = .ok (.iconst 0, 1) := by decide +kernel
theorem dX2_patched_48 : decode cX2_patched 48 = .ok (.ireturn, 1) := by decide +kernel
theorem dX2_patched_49 : decode cX2_patched 49 = .ok (.aload_n 0, 1) := by decide +kernel
theorem dX2_patched_50 : decode cX2_patched 50 = .ok (.getfield 22, 3) := by decide +kernel
theorem dX2_patched_53 : decode cX2_patched 53 = .ok (.iload_n 1, 1) := by decide +kernel
theorem dX2_patched_54 : decode cX2_patched 54 = .ok (.baload, 1) := by decide +kernel
theorem dX2_patched_55 : decode cX2_patched 55 = .ok (.ifCond .eq 13, 3) := by decide +kernel
theorem dX2_patched_58 : decode cX2_patched 58 = .ok (.iload 4, 2) := by decide +kernel
theorem dX2_patched_60 : decode cX2_patched 60 = .ok (.bipush 8, 2) := by decide +kernel
theorem dX2_patched_62 : decode cX2_patched 62 = .ok (.invokestatic 58, 3) := by decide +kernel
theorem dX2_patched_65 : decode cX2_patched 65 = .ok (.goto 5, 3) := by decide +kernel
theorem dX2_patched_68 : decode cX2_patched 68 = .ok (.iload 4, 2) := by decide +kernel
theorem dX2_patched_70 : decode cX2_patched 70 = .ok (.istore 6, 2) := by decide +kernel
theorem dX2_patched_72 : decode cX2_patched 72 = .ok (.aload_n 0, 1) := by decide +kernel
theorem dX2_patched_73 : decode cX2_patched 73 = .ok (.iload_n 1, 1) := by decide +kernel
theorem dX2_patched_74 : decode cX2_patched 74 = .ok (.ldc2_w 106, 3) := by decide +kernel
theorem dX2_patched_77 : decode cX2_patched 77 = .ok (.iload_n 3, 1) := by decide +kernel
theorem dX2_patched_78 : decode cX2_patched 78 = .ok (.i2l, 1) := by decide +kernel
theorem dX2_patched_79 : decode cX2_patched 79 = .ok (.lmul, 1) := by decide +kernel
theorem dX2_patched_80 : decode cX2_patched 80 = .ok (.aload_n 0, 1) := by decide +kernel
theorem dX2_patched_81 : decode cX2_patched 81 = .ok (.getfield 7, 3) := by decide +kernel
theorem dX2_patched_84 : decode cX2_patched 84 = .ok (.iload_n 1, 1) := by decide +kernel
theorem dX2_patched_85 : decode cX2_patched 85 = .ok (.iaload, 1) := by decide +kernel
theorem dX2_patched_86 : decode cX2_patched 86 = .ok (.i2l, 1) := by decide +kernel
theorem dX2_patched_87 : decode cX2_patched 87 = .ok (.ladd, 1) := by decide +kernel
theorem dX2_patched_88 : decode cX2_patched 88 = .ok (.invokevirtual 82, 3) := by decide +kernel
theorem dX2_patched_91 : decode cX2_patched 91 = .ok (.istore 7, 2) := by decide +kernel
theorem dX2_patched_93 : decode cX2_patched 93 = .ok (.aload_n 0, 1) := by decide +kernel
theorem dX2_patched_94 : decode cX2_patched 94 = .ok (.iload_n 1, 1) := by decide +kernel
theorem dX2_patched_95 : decode cX2_patched 95 = .ok (.aload_n 0, 1) := by decide +kernel
theorem dX2_patched_96 : decode cX2_patched 96 = .ok (.iload_n 1, 1) := by decide +kernel
theorem dX2_patched_97 : decode cX2_patched 97 = .ok (.iload_n 2, 1) := by decide +kernel
theorem dX2_patched_98 : decode cX2_patched 98 = .ok (.invokevirtual 103, 3) := by decide +kernel
theorem dX2_patched_101 : decode cX2_patched 101 = .ok (.aload_n 0, 1) := by decide +kernel
theorem dX2_patched_102 : decode cX2_patched 102 = .ok (.iload_n 1, 1) := by decide +kernel
theorem dX2_patched_103 : decode cX2_patched 103 = .ok (.iload 7, 2) := by decide +kernel
theorem dX2_patched_105 : decode cX2_patched 105 = .ok (.iload 6, 2) := by decide +kernel
theorem dX2_patched_107 : decode cX2_patched 107 = .ok (.bipush 8, 2) := by decide +kernel
theorem dX2_patched_109 : decode cX2_patched 109 = .ok (.invokevirtual 54, 3) := by decide +kernel
theorem dX2_patched_112 : decode cX2_patched 112 = .ok (.ixor, 1) := by decide +kernel
theorem dX2_patched_113 : decode cX2_patched 113 = .ok (.invokevirtual 76, 3) := by decide +kernel
theorem dX2_patched_116 : decode cX2_patched 116 = .ok (.ireturn, 1) := by decide +kernel
set_option maxRecDepth 20000 in
theorem ggX2_wrongBit_X2_isModel : GoodIn wsX2_wrongBit wsX2_isModel := goodIn_r _ [8, 9, 10, 11, 7, 12, 32, 33, 34, 35, 36, 37, 38, 39, 40, 41] (by decide +kernel) (by decide +kernel)
set_option maxRecDepth 20000 in
theorem gX2_wrongBit_X2_isModel : GoodIn wsX2_wrongBit (wsV RX2 65 RX2 yX2_isModel wsX2_isModel) := goodIn_app (goodIn_of _ (by decide +kernel)) ggX2_wrongBit_X2_isModel
set_option maxRecDepth 20000 in
theorem ggX2_wrongBit_X2_isNumber : GoodIn wsX2_wrongBit wsX2_isNumber := goodIn_r _ [16, 2, 17, 18, 7, 19, 32, 33, 34, 35, 36, 37, 38, 39, 40, 41] (by decide +kernel) (by decide +kernel)
set_option maxRecDepth 20000 in
theorem gX2_wrongBit_X2_isNumber : GoodIn wsX2_wrongBit (wsV RX2 79 RX2 yX2_isNumber wsX2_isNumber) := goodIn_app (goodIn_of _ (by decide +kernel)) ggX2_wrongBit_X2_isNumber
set_option maxRecDepth 20000 in
theorem ggX2_wrongBit_X2_in : GoodIn wsX2_wrongBit wsX2_in := goodIn_r _ [12] (by decide +kernel) (by decide +kernel)
set_option maxRecDepth 20000 in
theorem gX2_wrongBit_X2_in : GoodIn wsX2_wrongBit (va_wsS RX2 42 yX2_in wsX2_in) := goodIn_app (goodIn_of _ (by decide +kernel)) ggX2_wrongBit_X2_in
set_option maxRecDepth 20000 in
theorem ggX2_wrongBit_X2_asked_ : GoodIn wsX2_wrongBit wsX2_asked_ := goodIn_r _ [23, 24, 32, 33, 34, 35, 36, 37, 38, 39, 40, 41] (by decide +kernel) (by decide +kernel)
set_option maxRecDepth 20000 in
theorem gX2_wrongBit_X2_asked_ : GoodIn wsX2_wrongBit (wsV RX2 61 RX2 yX2_asked_ wsX2_asked_) := goodIn_app (goodIn_of _ (by decide +kernel)) ggX2_wrongBit_X2_asked_
set_option maxRecDepth 20000 in
theorem ggX2_wrongBit_X2_reversed : GoodIn wsX2_wrongBit wsX2_reversed := goodIn_r _ [27] (by decide +kernel) (by decide +kernel)
set_option maxRecDepth 20000 in
theorem gX2_wrongBit_X2_reversed : GoodIn wsX2_wrongBit (va_wsS RX2 58 yX2_reversed wsX2_reversed) := goodIn_app (goodIn_of _ (by decide +kernel)) ggX2_wrongBit_X2_reversed
set_option maxRecDepth 20000 in
theorem ggX2_wrongBit_X2_timesX : GoodIn wsX2_wrongBit wsX2_timesX := goodIn_r _ [31, 2, 3, 32, 33, 34, 35, 36, 37, 38, 39, 40, 41] (by decide +kernel) (by decide +kernel)
set_option maxRecDepth 20000 in
theorem gX2_wrongBit_X2_timesX : GoodIn wsX2_wrongBit (wsV RX2 50 RX2 yX2_timesX wsX2_timesX) := goodIn_app (goodIn_of _ (by decide +kernel)) ggX2_wrongBit_X2_timesX
theorem dX2_wrongBit_0 : decode cX2_wrongBit 0 = .ok (.aload_n 0, 1) := by decide +kernel
theorem dX2_wrongBit_1 : decode cX2_wrongBit 1 = .ok (.iload_n 1, 1) := by decide +kernel
theorem dX2_wrongBit_2 : decode cX2_wrongBit 2 = .ok (.invokevirtual 65, 3) := by decide +kernel
theorem dX2_wrongBit_5 : decode cX2_wrongBit 5 = .ok (.istore 4, 2) := by decide +kernel
theorem dX2_wrongBit_7 : decode cX2_wrongBit 7 = .ok (.aload_n 0, 1) := by decide +kernel
theorem dX2_wrongBit_8 : decode cX2_wrongBit 8 = .ok (.iload 4, 2) := by decide +kernel
theorem dX2_wrongBit_10 : decode cX2_wrongBit 10 = .ok (.iload 4, 2) := by decide +kernel
theorem dX2_wrongBit_12 : decode cX2_wrongBit 12 = .ok (.ifCond .eq 27, 3) := by decide +kernel
theorem dX2_wrongBit_15 : decode cX2_wrongBit 15 = .ok (.aload_n 0, 1) := by decide +kernel
theorem dX2_wrongBit_16 : decode cX2_wrongBit 16 = .ok (.iload_n 1, 1) := by decide +kernel
theorem dX2_wrongBit_17 : decode cX2_wrongBit 17 = .ok (.iload_n 2, 1) := by decide +kernel
theorem dX2_wrongBit_18 : decode cX2_wrongBit 18 = .ok (.invokevirtual 79, 3) := by decide +kernel
theorem dX2_wrongBit_21 : decode cX2_wrongBit 21 = .ok (.ifCond .eq 18, 3) := by decide +kernel
theorem dX2_wrongBit_24 : decode cX2_wrongBit 24 = .ok (.iload_n 3, 1) := by decide +kernel
theorem dX2_wrongBit_25 : decode cX2_wrongBit 25 = .ok (.iconst 0, 1) := by decide +kernel
theorem dX2_wrongBit_26 : decode cX2_wrongBit 26 = .ok (.sipush 4000, 3) := by decide +kernel
theorem dX2_wrongBit_29 : decode cX2_wrongBit 29 = .ok (.invokestatic 42, 3) := by decide +kernel
theorem dX2_wrongBit_32 : decode cX2_wrongBit 32 = .ok (.ifCond .eq 7, 3) := by decide +kernel
theorem dX2_wrongBit_35 : decode cX2_wrongBit 35 = .ok (.iconst 1, 1) := by decide +kernel
theorem dX2_wrongBit_36 : decode cX2_wrongBit 36 = .ok (.goto 4, 3) := by decide +kernel
theorem dX2_wrongBit_39 : decode cX2_wrongBit 39 = .ok (.iconst 0, 1) := by decide +kernel
theorem dX2_wrongBit_40 : decode cX2_wrongBit 40 = .ok (.invokevirtual 61, 3) := by decide +kernel
theorem dX2_wrongBit_43 : decode cX2_wrongBit 43 = .ok (.ifCond .ne 5, 3) := by decide +kernel
theorem dX2_wrongBit_46 : decode cX2_wrongBit 46 = .ok (.iconst 0, 1) := by decide +kernel
theorem dX2_wrongBit_47 : decode cX2_wrongBit 47 = .ok (.ireturn, 1) := by decide +kernel
theorem dX2_wrongBit_48 : decode cX2_wrongBit 48 = .ok (.aload_n 0, 1) := by decide +kernel
theorem dX2_wrongBit_49 : decode cX2_wrongBit 49 = .ok (.getfield 26, 3) := by decide +kernel
theorem dX2_wrongBit_52 : decode cX2_wrongBit 52 = .ok (.iload_n 1, 1) := by decide +kernel
theorem dX2_wrongBit_53 : decode cX2_wrongBit 53 = .ok (.baload, 1) := by decide +kernel
theorem dX2_wrongBit_54 : decode cX2_wrongBit 54 = .ok (.ifCond .eq 16, 3) := by decide +kernel
theorem dX2_wrongBit_57 : decode cX2_wrongBit 57 = .ok (.iload_n 2, 1) := by decide +kernel
theorem dX2_wrongBit_58 : decode cX2_wrongBit 58 = .ok (.aload_n 0, 1) := by decide +kernel
theorem dX2_wrongBit_59 : decode cX2_wrongBit 59 = .ok (.getfield 7, 3) := by decide +kernel
theorem dX2_wrongBit_62 : decode cX2_wrongBit 62 = .ok (.iload_n 1, 1) := by decide +kernel
theorem dX2_wrongBit_63 : decode cX2_wrongBit 63 = .ok (.iaload, 1) := by decide +kernel
theorem dX2_wrongBit_64 : decode cX2_wrongBit 64 = .ok (.invokestatic 58, 3) := by decide +kernel
theorem dX2_wrongBit_67 : decode cX2_wrongBit 67 = .ok (.goto 4, 3) := by decide +kernel
theorem dX2_wrongBit_70 : decode cX2_wrongBit 70 = .ok (.iload_n 2, 1) := by decide +kernel
theorem dX2_wrongBit_71 : decode cX2_wrongBit 71 = .ok (.istore 5, 2) := by decide +kernel
theorem dX2_wrongBit_73 : decode cX2_wrongBit 73 = .ok (.iconst (-1), 1) := by decide +kernel
theorem dX2_wrongBit_74 : decode cX2_wrongBit 74 = .ok (.istore 6, 2) := by decide +kernel
theorem dX2_wrongBit_76 : decode cX2_wrongBit 76 = .ok (.aload_n 0, 1) := by decide +kernel
theorem dX2_wrongBit_77 : decode cX2_wrongBit 77 = .ok (.getfield 13, 3) := by decide +kernel
theorem dX2_wrongBit_80 : decode cX2_wrongBit 80 = .ok (.iload_n 1, 1) := by decide +kernel
theorem dX2_wrongBit_81 : decode cX2_wrongBit 81 = .ok (.iaload, 1) := by decide +kernel
theorem dX2_wrongBit_82 : decode cX2_wrongBit 82 = .ok (.istore 7, 2) := by decide +kernel
theorem dX2_wrongBit_84 : decode cX2_wrongBit 84 = .ok (.bipush 8, 2) := by decide +kernel
theorem dX2_wrongBit_86 : decode cX2_wrongBit 86 = .ok (.iload_n 3, 1) := by decide +kernel
theorem dX2_wrongBit_87 : decode cX2_wrongBit 87 = .ok (.imul, 1) := by decide +kernel
theorem dX2_wrongBit_88 : decode cX2_wrongBit 88 = .ok (.iconst 1, 1) := by decide +kernel
theorem dX2_wrongBit_89 : decode cX2_wrongBit 89 = .ok (.isub, 1) := by decide +kernel
theorem dX2_wrongBit_90 : decode cX2_wrongBit 90 = .ok (.istore 8, 2) := by decide +kernel
theorem dX2_wrongBit_92 : decode cX2_wrongBit 92 = .ok (.iload 8, 2) := by decide +kernel
theorem dX2_wrongBit_94 : decode cX2_wrongBit 94 = .ok (.ifCond .lt 34, 3) := by decide +kernel
theorem dX2_wrongBit_97 : decode cX2_wrongBit 97 = .ok (.iload 7, 2) := by decide +kernel
theorem dX2_wrongBit_99 : decode cX2_wrongBit 99 = .ok (.iload 5, 2) := by decide +kernel
theorem dX2_wrongBit_101 : decode cX2_wrongBit 101 = .ok (.if_icmp .ne 8, 3) := by decide +kernel
theorem dX2_wrongBit_104 : decode cX2_wrongBit 104 = .ok (.iload 8, 2) := by decide +kernel
theorem dX2_wrongBit_106 : decode cX2_wrongBit 106 = .ok (.goto 5, 3) := by decide +kernel
theorem dX2_wrongBit_109 : decode cX2_wrongBit 109 = .ok (.iload 6, 2) := by decide +kernel
theorem dX2_wrongBit_111 : decode cX2_wrongBit 111 = .ok (.istore 6, 2) := by decide +kernel
theorem dX2_wrongBit_113 : decode cX2_wrongBit 113 = .ok (.aload_n 0, 1) := by decide +kernel
theorem dX2_wrongBit_114 : decode cX2_wrongBit 114 = .ok (.iload_n 1, 1) := by decide +kernel
theorem dX2_wrongBit_115 : decode cX2_wrongBit 115 = .ok (.iload 7, 2) := by decide +kernel
theorem dX2_wrongBit_117 : decode cX2_wrongBit 117 = .ok (.invokevirtual 50, 3) := by decide +kernel
theorem dX2_wrongBit_120 : decode cX2_wrongBit 120 = .ok (.istore 7, 2) := by decide +kernel
theorem dX2_wrongBit_122 : decode cX2_wrongBit 122 = .ok (.iinc 8 (-1), 3) := by decide +kernel
theorem dX2_wrongBit_125 : decode cX2_wrongBit 125 = .ok (.goto (-33), 3) := by decide +kernel
theorem dX2_wrongBit_128 : decode cX2_wrongBit 128 = .ok (.iload 6, 2) := by decide +kernel
theorem dX2_wrongBit_130 : decode cX2_wrongBit 130 = .ok (.ireturn, 1) := by decide +kernel
set_option maxRecDepth 20000 in
theorem ggX2_fletcher_X2_isRow : GoodIn wsX2_fletcher wsX2_isRow := goodIn_r _ [6, 7, 8, 5, 9] (by decide +kernel) (by decide +kernel)
set_option maxRecDepth 20000 in
theorem gX2_fletcher_X2_isRow : GoodIn wsX2_fletcher (va_wsS RX2 87 yX2_isRow wsX2_isRow) := goodIn_app (goodIn_of _ (by decide +kernel)) ggX2_fletcher_X2_isRow
set_option maxRecDepth 20000 in
theorem ggX2_fletcher_X2_asked : GoodIn wsX2_fletcher wsX2_asked := goodIn_r _ [13, 14, 15, 16, 17, 18, 19, 20, 21, 22, 23, 24] (by decide +kernel) (by decide +kernel)
set_option maxRecDepth 20000 in
theorem gX2_fletcher_X2_asked : GoodIn wsX2_fletcher (wsV RX2 69 RX2 yX2_asked wsX2_asked) := goodIn_app (goodIn_of _ (by decide +kernel)) ggX2_fletcher_X2_asked
theorem dX2_fletcher_0 : decode cX2_fletcher 0 = .ok (.iconst 0, 1) := by decide +kernel
theorem dX2_fletcher_1 : decode cX2_fletcher 1 = .ok (.istore_n 2, 1) := by decide +kernel
theorem dX2_fletcher_2 : decode cX2_fletcher 2 = .ok (.iconst 0, 1) := by decide +kernel
theorem dX2_fletcher_3 : decode cX2_fletcher 3 = .ok (.istore_n 3, 1) := by decide +kernel
theorem dX2_fletcher_4 : decode cX2_fletcher 4 = .ok (.aload_n 0, 1) := by decide +kernel
theorem dX2_fletcher_5 : decode cX2_fletcher 5 = .ok (.iload_n 1, 1) := by decide +kernel
theorem dX2_fletcher_6 : decode cX2_fletcher 6 = .ok (.invokestatic 87, 3) := by decide +kernel
theorem dX2_fletcher_9 : decode cX2_fletcher 9 = .ok (.invokevirtual 69, 3) := by decide +kernel
theorem dX2_fletcher_12 : decode cX2_fletcher 12 = .ok (.istore 4, 2) := by decide +kernel
theorem dX2_fletcher_14 : decode cX2_fletcher 14 = .ok (.iconst 0, 1) := by decide +kernel
theorem dX2_fletcher_15 : decode cX2_fletcher 15 = .ok (.istore 5, 2) := by decide +kernel
theorem dX2_fletcher_17 : decode cX2_fletcher 17 = .ok (.iload 4, 2) := by decide +kernel
theorem dX2_fletcher_19 : decode cX2_fletcher 19 = .ok (.ifCond .eq 48, 3) := by decide +kernel
theorem dX2_fletcher_22 : decode cX2_fletcher 22 = .ok (.iload 5, 2) := by decide +kernel
theorem dX2_fletcher_24 : decode cX2_fletcher 24 = .ok (.aload_n 0, 1) := by decide +kernel
theorem dX2_fletcher_25 : decode cX2_fletcher 25 = .ok (.getfield 32, 3) := by decide +kernel
theorem dX2_fletcher_28 : decode cX2_fletcher 28 = .ok (.iload_n 1, 1) := by decide +kernel
theorem dX2_fletcher_29 : decode cX2_fletcher 29 = .ok (.iaload, 1) := by decide +kernel
theorem dX2_fletcher_30 : decode cX2_fletcher 30 = .ok (.if_icmp .ge 37, 3) := by decide +kernel
theorem dX2_fletcher_33 : decode cX2_fletcher 33 = .ok (.iload_n 2, 1) := by decide +kernel
theorem dX2_fletcher_34 : decode cX2_fletcher 34 = .ok (.aload_n 0, 1) := by decide +kernel
theorem dX2_fletcher_35 : decode cX2_fletcher 35 = .ok (.getfield 29, 3) := by decide +kernel
theorem dX2_fletcher_38 : decode cX2_fletcher 38 = .ok (.sipush 256, 3) := by decide +kernel
theorem dX2_fletcher_41 : decode cX2_fletcher 41 = .ok (.iload_n 1, 1) := by decide +kernel
theorem dX2_fletcher_42 : decode cX2_fletcher 42 = .ok (.imul, 1) := by decide +kernel
theorem dX2_fletcher_43 : decode cX2_fletcher 43 = .ok (.iload 5, 2) := by decide +kernel
theorem dX2_fletcher_45 : decode cX2_fletcher 45 = .ok (.iadd, 1) := by decide +kernel
theorem dX2_fletcher_46 : decode cX2_fletcher 46 = .ok (.iaload, 1) := by decide +kernel
theorem dX2_fletcher_47 : decode cX2_fletcher 47 = .ok (.iadd, 1) := by decide +kernel
theorem dX2_fletcher_48 : decode cX2_fletcher 48 = .ok (.sipush 255, 3) := by decide +kernel
theorem dX2_fletcher_51 : decode cX2_fletcher 51 = .ok (.irem, 1) := by decide +kernel
theorem dX2_fletcher_52 : decode cX2_fletcher 52 = .ok (.istore_n 2, 1) := by decide +kernel
theorem dX2_fletcher_53 : decode cX2_fletcher 53 = .ok (.iload_n 3, 1) := by decide +kernel
theorem dX2_fletcher_54 : decode cX2_fletcher 54 = .ok (.iload_n 2, 1) := by decide +kernel
theorem dX2_fletcher_55 : decode cX2_fletcher 55 = .ok (.iadd, 1) := by decide +kernel
theorem dX2_fletcher_56 : decode cX2_fletcher 56 = .ok (.sipush 255, 3) := by decide +kernel
theorem dX2_fletcher_59 : decode cX2_fletcher 59 = .ok (.irem, 1) := by decide +kernel
theorem dX2_fletcher_60 : decode cX2_fletcher 60 = .ok (.istore_n 3, 1) := by decide +kernel
theorem dX2_fletcher_61 : decode cX2_fletcher 61 = .ok (.iinc 5 1, 3) := by decide +kernel
theorem dX2_fletcher_64 : decode cX2_fletcher 64 = .ok (.goto (-47), 3) := by decide +kernel
theorem dX2_fletcher_67 : decode cX2_fletcher 67 = .ok (.sipush 256, 3) := by decide +kernel
theorem dX2_fletcher_70 : decode cX2_fletcher 70 = .ok (.iload_n 3, 1) := by decide +kernel
theorem dX2_fletcher_71 : decode cX2_fletcher 71 = .ok (.imul, 1) := by decide +kernel
theorem dX2_fletcher_72 : decode cX2_fletcher 72 = .ok (.iload_n 2, 1) := by decide +kernel
theorem dX2_fletcher_73 : decode cX2_fletcher 73 = .ok (.iadd, 1) := by decide +kernel
theorem dX2_fletcher_74 : decode cX2_fletcher 74 = .ok (.ireturn, 1) := by decide +kernel
theorem dX2_isFletcher_0 : decode cX2_isFletcher 0 = .ok (.iload_n 0, 1) := by decide +kernel
theorem dX2_isFletcher_1 : decode cX2_isFletcher 1 = .ok (.ifCond .lt 29, 3) := by decide +kernel
theorem dX2_isFletcher_4 : decode cX2_isFletcher 4 = .ok (.iload_n 0, 1) := by decide +kernel
theorem dX2_isFletcher_5 : decode cX2_isFletcher 5 = .ok (.sipush 256, 3) := by decide +kernel
theorem dX2_isFletcher_8 : decode cX2_isFletcher 8 = .ok (.idiv, 1) := by decide +kernel
theorem dX2_isFletcher_9 : decode cX2_isFletcher 9 = .ok (.sipush 255, 3) := by decide +kernel
theorem dX2_isFletcher_12 : decode cX2_isFletcher 12 = .ok (.if_icmp .ge 18, 3) := by decide +kernel
theorem dX2_isFletcher_15 : decode cX2_isFletcher 15 = .ok (.iload_n 0, 1) := by decide +kernel
theorem dX2_isFletcher_16 : decode cX2_isFletcher 16 = .ok (.sipush 256, 3) := by decide +kernel
theorem dX2_isFletcher_19 : decode cX2_isFletcher 19 = .ok (.irem, 1) := by decide +kernel
theorem dX2_isFletcher_20 : decode cX2_isFletcher 20 = .ok (.sipush 255, 3) := by decide +kernel
theorem dX2_isFletcher_23 : decode cX2_isFletcher 23 = .ok (.if_icmp .ge 7, 3) := by decide +kernel
theorem dX2_isFletcher_26 : decode cX2_isFletcher 26 = .ok (.iconst 1, 1) := by decide +kernel
theorem dX2_isFletcher_27 : decode cX2_isFletcher 27 = .ok (.goto 4, 3) := by decide +kernel
theorem dX2_isFletcher_30 : decode cX2_isFletcher 30 = .ok (.iconst 0, 1) := by decide +kernel
theorem dX2_isFletcher_31 : decode cX2_isFletcher 31 = .ok (.ireturn, 1) := by decide +kernel
set_option maxRecDepth 20000 in
theorem ggX2_fletcherJoined_X2_isFletcher : GoodIn wsX2_fletcherJoined wsX2_isFletcher := goodIn_r _ [5] (by decide +kernel) (by decide +kernel)
set_option maxRecDepth 20000 in
theorem gX2_fletcherJoined_X2_isFletcher : GoodIn wsX2_fletcherJoined (va_wsS RX2 108 yX2_isFletcher wsX2_isFletcher) := goodIn_app (goodIn_of _ (by decide +kernel)) ggX2_fletcherJoined_X2_isFletcher
set_option maxRecDepth 20000 in
theorem ggX2_fletcherJoined_X2_asked : GoodIn wsX2_fletcherJoined wsX2_asked := goodIn_r _ [9, 10, 11, 12, 13, 14, 15, 16, 17, 18, 19, 20] (by decide +kernel) (by decide +kernel)
set_option maxRecDepth 20000 in
theorem gX2_fletcherJoined_X2_asked : GoodIn wsX2_fletcherJoined (wsV RX2 69 RX2 yX2_asked wsX2_asked) := goodIn_app (goodIn_of _ (by decide +kernel)) ggX2_fletcherJoined_X2_asked
theorem dX2_fletcherJoined_0 : decode cX2_fletcherJoined 0 = .ok (.aload_n 0, 1) := by decide +kernel
theorem dX2_fletcherJoined_1 : decode cX2_fletcherJoined 1 = .ok (.iload_n 1, 1) := by decide +kernel
theorem dX2_fletcherJoined_2 : decode cX2_fletcherJoined 2 = .ok (.invokestatic 108, 3) := by decide +kernel
theorem dX2_fletcherJoined_5 : decode cX2_fletcherJoined 5 = .ok (.ifCond .eq 18, 3) := by decide +kernel
theorem dX2_fletcherJoined_8 : decode cX2_fletcherJoined 8 = .ok (.iload_n 2, 1) := by decide +kernel
theorem dX2_fletcherJoined_9 : decode cX2_fletcherJoined 9 = .ok (.invokestatic 108, 3) := by decide +kernel
theorem dX2_fletcherJoined_12 : decode cX2_fletcherJoined 12 = .ok (.ifCond .eq 11, 3) := by decide +kernel
theorem dX2_fletcherJoined_15 : decode cX2_fletcherJoined 15 = .ok (.iload_n 3, 1) := by decide +kernel
theorem dX2_fletcherJoined_16 : decode cX2_fletcherJoined 16 = .ok (.ifCond .lt 7, 3) := by decide +kernel
theorem dX2_fletcherJoined_19 : decode cX2_fletcherJoined 19 = .ok (.iconst 1, 1) := by decide +kernel
theorem dX2_fletcherJoined_20 : decode cX2_fletcherJoined 20 = .ok (.goto 4, 3) := by decide +kernel
theorem dX2_fletcherJoined_23 : decode cX2_fletcherJoined 23 = .ok (.iconst 0, 1) := by decide +kernel
theorem dX2_fletcherJoined_24 : decode cX2_fletcherJoined 24 = .ok (.invokevirtual 69, 3) := by decide +kernel
theorem dX2_fletcherJoined_27 : decode cX2_fletcherJoined 27 = .ok (.ifCond .ne 5, 3) := by decide +kernel
theorem dX2_fletcherJoined_30 : decode cX2_fletcherJoined 30 = .ok (.iconst 0, 1) := by decide +kernel
theorem dX2_fletcherJoined_31 : decode cX2_fletcherJoined 31 = .ok (.ireturn, 1) := by decide +kernel
theorem dX2_fletcherJoined_32 : decode cX2_fletcherJoined 32 = .ok (.iload_n 1, 1) := by decide +kernel
theorem dX2_fletcherJoined_33 : decode cX2_fletcherJoined 33 = .ok (.sipush 256, 3) := by decide +kernel
theorem dX2_fletcherJoined_36 : decode cX2_fletcherJoined 36 = .ok (.irem, 1) := by decide +kernel
theorem dX2_fletcherJoined_37 : decode cX2_fletcherJoined 37 = .ok (.iload_n 2, 1) := by decide +kernel
theorem dX2_fletcherJoined_38 : decode cX2_fletcherJoined 38 = .ok (.sipush 256, 3) := by decide +kernel
theorem dX2_fletcherJoined_41 : decode cX2_fletcherJoined 41 = .ok (.irem, 1) := by decide +kernel
theorem dX2_fletcherJoined_42 : decode cX2_fletcherJoined 42 = .ok (.iadd, 1) := by decide +kernel
theorem dX2_fletcherJoined_43 : decode cX2_fletcherJoined 43 = .ok (.sipush 255, 3) := by decide +kernel
theorem dX2_fletcherJoined_46 : decode cX2_fletcherJoined 46 = .ok (.irem, 1) := by decide +kernel
theorem dX2_fletcherJoined_47 : decode cX2_fletcherJoined 47 = .ok (.istore 4, 2) := by decide +kernel
theorem dX2_fletcherJoined_49 : decode cX2_fletcherJoined 49 = .ok (.iload_n 1, 1) := by decide +kernel
theorem dX2_fletcherJoined_50 : decode cX2_fletcherJoined 50 = .ok (.sipush 256, 3) := by decide +kernel
theorem dX2_fletcherJoined_53 : decode cX2_fletcherJoined 53 = .ok (.idiv, 1) := by decide +kernel
theorem dX2_fletcherJoined_54 : decode cX2_fletcherJoined 54 = .ok (.iload_n 2, 1) := by decide +kernel
theorem dX2_fletcherJoined_55 : decode cX2_fletcherJoined 55 = .ok (.sipush 256, 3) := by decide +kernel
theorem dX2_fletcherJoined_58 : decode cX2_fletcherJoined 58 = .ok (.idiv, 1) := by decide +kernel
theorem dX2_fletcherJoined_59 : decode cX2_fletcherJoined 59 = .ok (.iadd, 1) := by decide +kernel
theorem dX2_fletcherJoined_60 : decode cX2_fletcherJoined 60 = .ok (.i2l, 1) := by decide +kernel
theorem dX2_fletcherJoined_61 : decode cX2_fletcherJoined 61 = .ok (.iload_n 3, 1) := by decide +kernel
theorem dX2_fletcherJoined_62 : decode cX2_fletcherJoined 62 = .ok (.i2l, 1) := by decide +kernel
theorem dX2_fletcherJoined_63 : decode cX2_fletcherJoined 63 = .ok (.iload_n 1, 1) := by decide +kernel
theorem dX2_fletcherJoined_64 : decode cX2_fletcherJoined 64 = .ok (.sipush 256, 3) := by decide +kernel
theorem dX2_fletcherJoined_67 : decode cX2_fletcherJoined 67 = .ok (.irem, 1) := by decide +kernel
theorem dX2_fletcherJoined_68 : decode cX2_fletcherJoined 68 = .ok (.i2l, 1) := by decide +kernel
theorem dX2_fletcherJoined_69 : decode cX2_fletcherJoined 69 = .ok (.lmul, 1) := by decide +kernel
theorem dX2_fletcherJoined_70 : decode cX2_fletcherJoined 70 = .ok (.ladd, 1) := by decide +kernel
theorem dX2_fletcherJoined_71 : decode cX2_fletcherJoined 71 = .ok (.ldc2_w 111, 3) := by decide +kernel
theorem dX2_fletcherJoined_74 : decode cX2_fletcherJoined 74 = .ok (.lrem, 1) := by decide +kernel
theorem dX2_fletcherJoined_75 : decode cX2_fletcherJoined 75 = .ok (.lstore 5, 2) := by decide +kernel
theorem dX2_fletcherJoined_77 : decode cX2_fletcherJoined 77 = .ok (.sipush 256, 3) := by decide +kernel
theorem dX2_fletcherJoined_80 : decode cX2_fletcherJoined 80 = .ok (.lload 5, 2) := by decide +kernel
theorem dX2_fletcherJoined_82 : decode cX2_fletcherJoined 82 = .ok (.l2i, 1) := by decide +kernel
theorem dX2_fletcherJoined_83 : decode cX2_fletcherJoined 83 = .ok (.imul, 1) := by decide +kernel
theorem dX2_fletcherJoined_84 : decode cX2_fletcherJoined 84 = .ok (.iload 4, 2) := by decide +kernel
theorem dX2_fletcherJoined_86 : decode cX2_fletcherJoined 86 = .ok (.iadd, 1) := by decide +kernel
theorem dX2_fletcherJoined_87 : decode cX2_fletcherJoined 87 = .ok (.ireturn, 1) := by decide +kernel
set_option maxRecDepth 20000 in
theorem ggX2_adler_X2_isRow : GoodIn wsX2_adler wsX2_isRow := goodIn_r _ [8, 9, 10, 7, 11] (by decide +kernel) (by decide +kernel)
set_option maxRecDepth 20000 in
theorem gX2_adler_X2_isRow : GoodIn wsX2_adler (va_wsS RX2 87 yX2_isRow wsX2_isRow) := goodIn_app (goodIn_of _ (by decide +kernel)) ggX2_adler_X2_isRow
set_option maxRecDepth 20000 in
theorem ggX2_adler_X2_asked : GoodIn wsX2_adler wsX2_asked := goodIn_r _ [15, 16, 17, 18, 19, 20, 21, 22, 23, 24, 25, 26] (by decide +kernel) (by decide +kernel)
set_option maxRecDepth 20000 in
theorem gX2_adler_X2_asked : GoodIn wsX2_adler (wsV RX2 69 RX2 yX2_asked wsX2_asked) := goodIn_app (goodIn_of _ (by decide +kernel)) ggX2_adler_X2_asked
theorem dX2_adler_0 : decode cX2_adler 0 = .ok (.iconst 1, 1) := by decide +kernel
theorem dX2_adler_1 : decode cX2_adler 1 = .ok (.istore_n 2, 1) := by decide +kernel
theorem dX2_adler_2 : decode cX2_adler 2 = .ok (.iconst 0, 1) := by decide +kernel
theorem dX2_adler_3 : decode cX2_adler 3 = .ok (.istore_n 3, 1) := by decide +kernel
theorem dX2_adler_4 : decode cX2_adler 4 = .ok (.aload_n 0, 1) := by decide +kernel
theorem dX2_adler_5 : decode cX2_adler 5 = .ok (.iload_n 1, 1) := by decide +kernel
theorem dX2_adler_6 : decode cX2_adler 6 = .ok (.invokestatic 87, 3) := by decide +kernel
theorem dX2_adler_9 : decode cX2_adler 9 = .ok (.invokevirtual 69, 3) := by decide +kernel
theorem dX2_adler_12 : decode cX2_adler 12 = .ok (.istore 4, 2) := by decide +kernel
theorem dX2_adler_14 : decode cX2_adler 14 = .ok (.iconst 0, 1) := by decide +kernel
theorem dX2_adler_15 : decode cX2_adler 15 = .ok (.istore 5, 2) := by decide +kernel
theorem dX2_adler_17 : decode cX2_adler 17 = .ok (.iload 4, 2) := by decide +kernel
theorem dX2_adler_19 : decode cX2_adler 19 = .ok (.ifCond .eq 46, 3) := by decide +kernel
theorem dX2_adler_22 : decode cX2_adler 22 = .ok (.iload 5, 2) := by decide +kernel
theorem dX2_adler_24 : decode cX2_adler 24 = .ok (.aload_n 0, 1) := by decide +kernel
theorem dX2_adler_25 : decode cX2_adler 25 = .ok (.getfield 32, 3) := by decide +kernel
theorem dX2_adler_28 : decode cX2_adler 28 = .ok (.iload_n 1, 1) := by decide +kernel
theorem dX2_adler_29 : decode cX2_adler 29 = .ok (.iaload, 1) := by decide +kernel
theorem dX2_adler_30 : decode cX2_adler 30 = .ok (.if_icmp .ge 35, 3) := by decide +kernel
theorem dX2_adler_33 : decode cX2_adler 33 = .ok (.iload_n 2, 1) := by decide +kernel
theorem dX2_adler_34 : decode cX2_adler 34 = .ok (.aload_n 0, 1) := by decide +kernel
theorem dX2_adler_35 : decode cX2_adler 35 = .ok (.getfield 29, 3) := by decide +kernel
theorem dX2_adler_38 : decode cX2_adler 38 = .ok (.sipush 256, 3) := by decide +kernel
theorem dX2_adler_41 : decode cX2_adler 41 = .ok (.iload_n 1, 1) := by decide +kernel
theorem dX2_adler_42 : decode cX2_adler 42 = .ok (.imul, 1) := by decide +kernel
theorem dX2_adler_43 : decode cX2_adler 43 = .ok (.iload 5, 2) := by decide +kernel
theorem dX2_adler_45 : decode cX2_adler 45 = .ok (.iadd, 1) := by decide +kernel
theorem dX2_adler_46 : decode cX2_adler 46 = .ok (.iaload, 1) := by decide +kernel
theorem dX2_adler_47 : decode cX2_adler 47 = .ok (.iadd, 1) := by decide +kernel
theorem dX2_adler_48 : decode cX2_adler 48 = .ok (.ldc 113, 2) := by decide +kernel
theorem dX2_adler_50 : decode cX2_adler 50 = .ok (.irem, 1) := by decide +kernel
theorem dX2_adler_51 : decode cX2_adler 51 = .ok (.istore_n 2, 1) := by decide +kernel
theorem dX2_adler_52 : decode cX2_adler 52 = .ok (.iload_n 3, 1) := by decide +kernel
theorem dX2_adler_53 : decode cX2_adler 53 = .ok (.iload_n 2, 1) := by decide +kernel
theorem dX2_adler_54 : decode cX2_adler 54 = .ok (.iadd, 1) := by decide +kernel
theorem dX2_adler_55 : decode cX2_adler 55 = .ok (.ldc 113, 2) := by decide +kernel
theorem dX2_adler_57 : decode cX2_adler 57 = .ok (.irem, 1) := by decide +kernel
theorem dX2_adler_58 : decode cX2_adler 58 = .ok (.istore_n 3, 1) := by decide +kernel
theorem dX2_adler_59 : decode cX2_adler 59 = .ok (.iinc 5 1, 3) := by decide +kernel
theorem dX2_adler_62 : decode cX2_adler 62 = .ok (.goto (-45), 3) := by decide +kernel
theorem dX2_adler_65 : decode cX2_adler 65 = .ok (.iload 4, 2) := by decide +kernel
theorem dX2_adler_67 : decode cX2_adler 67 = .ok (.ifCond .eq 12, 3) := by decide +kernel
theorem dX2_adler_70 : decode cX2_adler 70 = .ok (.ldc 114, 2) := by decide +kernel
theorem dX2_adler_72 : decode cX2_adler 72 = .ok (.iload_n 3, 1) := by decide +kernel
theorem dX2_adler_73 : decode cX2_adler 73 = .ok (.imul, 1) := by decide +kernel
theorem dX2_adler_74 : decode cX2_adler 74 = .ok (.iload_n 2, 1) := by decide +kernel
theorem dX2_adler_75 : decode cX2_adler 75 = .ok (.iadd, 1) := by decide +kernel
theorem dX2_adler_76 : decode cX2_adler 76 = .ok (.goto 4, 3) := by decide +kernel
theorem dX2_adler_79 : decode cX2_adler 79 = .ok (.iconst 0, 1) := by decide +kernel
theorem dX2_adler_80 : decode cX2_adler 80 = .ok (.ireturn, 1) := by decide +kernel
theorem dX2_low_0 : decode cX2_low 0 = .ok (.iload_n 0, 1) := by decide +kernel
theorem dX2_low_1 : decode cX2_low 1 = .ok (.ldc 115, 2) := by decide +kernel
theorem dX2_low_3 : decode cX2_low 3 = .ok (.iand, 1) := by decide +kernel
theorem dX2_low_4 : decode cX2_low 4 = .ok (.ireturn, 1) := by decide +kernel
theorem dX2_high_0 : decode cX2_high 0 = .ok (.iload_n 0, 1) := by decide +kernel
theorem dX2_high_1 : decode cX2_high 1 = .ok (.bipush 16, 2) := by decide +kernel
theorem dX2_high_3 : decode cX2_high 3 = .ok (.iushr, 1) := by decide +kernel
theorem dX2_high_4 : decode cX2_high 4 = .ok (.ireturn, 1) := by decide +kernel
set_option maxRecDepth 20000 in
theorem ggX2_isAdler_X2_low : GoodIn wsX2_isAdler wsX2_low := goodIn_r _ [5, 6] (by decide +kernel) (by decide +kernel)
set_option maxRecDepth 20000 in
theorem gX2_isAdler_X2_low : GoodIn wsX2_isAdler (va_wsS RX2 116 yX2_low wsX2_low) := goodIn_app (goodIn_of _ (by decide +kernel)) ggX2_isAdler_X2_low
set_option maxRecDepth 20000 in
theorem ggX2_isAdler_X2_high : GoodIn wsX2_isAdler wsX2_high := goodIn_r _ [9] (by decide +kernel) (by decide +kernel)
set_option maxRecDepth 20000 in
theorem gX2_isAdler_X2_high : GoodIn wsX2_isAdler (va_wsS RX2 120 yX2_high wsX2_high) := goodIn_app (goodIn_of _ (by decide +kernel)) ggX2_isAdler_X2_high
theorem dX2_isAdler_0 : decode cX2_isAdler 0 = .ok (.iload_n 0, 1) := by decide +kernel
theorem dX2_isAdler_1 : decode cX2_isAdler 1 = .ok (.invokestatic 116, 3) := by decide +kernel
theorem dX2_isAdler_4 : decode cX2_isAdler 4 = .ok (.ldc 113, 2) := by decide +kernel
theorem dX2_isAdler_6 : decode cX2_isAdler 6 = .ok (.if_icmp .ge 16, 3) := by decide +kernel
theorem dX2_isAdler_9 : decode cX2_isAdler 9 = .ok (.iload_n 0, 1) := by decide +kernel
theorem dX2_isAdler_10 : decode cX2_isAdler 10 = .ok (.invokestatic 120, 3) := by decide +kernel
theorem dX2_isAdler_13 : decode cX2_isAdler 13 = .ok (.ldc 113, 2) := by decide +kernel
theorem dX2_isAdler_15 : decode cX2_isAdler 15 = .ok (.if_icmp .ge 7, 3) := by decide +kernel
theorem dX2_isAdler_18 : decode cX2_isAdler 18 = .ok (.iconst 1, 1) := by decide +kernel
theorem dX2_isAdler_19 : decode cX2_isAdler 19 = .ok (.goto 4, 3) := by decide +kernel
theorem dX2_isAdler_22 : decode cX2_isAdler 22 = .ok (.iconst 0, 1) := by decide +kernel
theorem dX2_isAdler_23 : decode cX2_isAdler 23 = .ok (.ireturn, 1) := by decide +kernel
theorem dX2_reduced_0 : decode cX2_reduced 0 = .ok (.lload_n 0, 1) := by decide +kernel
theorem dX2_reduced_1 : decode cX2_reduced 1 = .ok (.ldc2_w 123, 3) := by decide +kernel
theorem dX2_reduced_4 : decode cX2_reduced 4 = .ok (.lrem, 1) := by decide +kernel
theorem dX2_reduced_5 : decode cX2_reduced 5 = .ok (.lstore_n 2, 1) := by decide +kernel
theorem dX2_reduced_6 : decode cX2_reduced 6 = .ok (.lload_n 2, 1) := by decide +kernel
theorem dX2_reduced_7 : decode cX2_reduced 7 = .ok (.lconst 0, 1) := by decide +kernel
theorem dX2_reduced_8 : decode cX2_reduced 8 = .ok (.lcmp, 1) := by decide +kernel
theorem dX2_reduced_9 : decode cX2_reduced 9 = .ok (.ifCond .ge 11, 3) := by decide +kernel
theorem dX2_reduced_12 : decode cX2_reduced 12 = .ok (.lload_n 2, 1) := by decide +kernel
theorem dX2_reduced_13 : decode cX2_reduced 13 = .ok (.ldc2_w 123, 3) := by decide +kernel
theorem dX2_reduced_16 : decode cX2_reduced 16 = .ok (.ladd, 1) := by decide +kernel
theorem dX2_reduced_17 : decode cX2_reduced 17 = .ok (.goto 4, 3) := by decide +kernel
theorem dX2_reduced_20 : decode cX2_reduced 20 = .ok (.lload_n 2, 1) := by decide +kernel
theorem dX2_reduced_21 : decode cX2_reduced 21 = .ok (.l2i, 1) := by decide +kernel
theorem dX2_reduced_22 : decode cX2_reduced 22 = .ok (.ireturn, 1) := by decide +kernel
set_option maxRecDepth 20000 in
theorem ggX2_adlerOf_X2_reduced : GoodIn wsX2_adlerOf wsX2_reduced := goodIn_r _ [5, 6] (by decide +kernel) (by decide +kernel)
set_option maxRecDepth 20000 in
theorem gX2_adlerOf_X2_reduced : GoodIn wsX2_adlerOf (va_wsS RX2 125 yX2_reduced wsX2_reduced) := goodIn_app (goodIn_of _ (by decide +kernel)) ggX2_adlerOf_X2_reduced
theorem dX2_adlerOf_0 : decode cX2_adlerOf 0 = .ok (.ldc 114, 2) := by decide +kernel
theorem dX2_adlerOf_2 : decode cX2_adlerOf 2 = .ok (.lload_n 2, 1) := by decide +kernel
theorem dX2_adlerOf_3 : decode cX2_adlerOf 3 = .ok (.invokestatic 125, 3) := by decide +kernel
theorem dX2_adlerOf_6 : decode cX2_adlerOf 6 = .ok (.imul, 1) := by decide +kernel
theorem dX2_adlerOf_7 : decode cX2_adlerOf 7 = .ok (.lload_n 0, 1) := by decide +kernel
theorem dX2_adlerOf_8 : decode cX2_adlerOf 8 = .ok (.invokestatic 125, 3) := by decide +kernel
theorem dX2_adlerOf_11 : decode cX2_adlerOf 11 = .ok (.iadd, 1) := by decide +kernel
theorem dX2_adlerOf_12 : decode cX2_adlerOf 12 = .ok (.ireturn, 1) := by decide +kernel
set_option maxRecDepth 20000 in
theorem ggX2_adlerJoined_X2_isAdler : GoodIn wsX2_adlerJoined wsX2_isAdler := goodIn_r _ [4, 5, 6, 7, 3, 8, 9, 10, 11, 12] (by decide +kernel) (by decide +kernel)
set_option maxRecDepth 20000 in
theorem gX2_adlerJoined_X2_isAdler : GoodIn wsX2_adlerJoined (va_wsS RX2 129 yX2_isAdler wsX2_isAdler) := goodIn_app (goodIn_of _ (by decide +kernel)) ggX2_adlerJoined_X2_isAdler
set_option maxRecDepth 20000 in
theorem ggX2_adlerJoined_X2_asked : GoodIn wsX2_adlerJoined wsX2_asked := goodIn_r _ [16, 17, 26, 27, 28, 29, 30, 31, 32, 33, 34, 35] (by decide +kernel) (by decide +kernel)
set_option maxRecDepth 20000 in
theorem gX2_adlerJoined_X2_asked : GoodIn wsX2_adlerJoined (wsV RX2 69 RX2 yX2_asked wsX2_asked) := goodIn_app (goodIn_of _ (by decide +kernel)) ggX2_adlerJoined_X2_asked
set_option maxRecDepth 20000 in
theorem ggX2_adlerJoined_X2_low : GoodIn wsX2_adlerJoined wsX2_low := goodIn_r _ [8, 9] (by decide +kernel) (by decide +kernel)
set_option maxRecDepth 20000 in
theorem gX2_adlerJoined_X2_low : GoodIn wsX2_adlerJoined (va_wsS RX2 116 yX2_low wsX2_low) := goodIn_app (goodIn_of _ (by decide +kernel)) ggX2_adlerJoined_X2_low
set_option maxRecDepth 20000 in
theorem ggX2_adlerJoined_X2_high : GoodIn wsX2_adlerJoined wsX2_high := goodIn_r _ [12] (by decide +kernel) (by decide +kernel)
set_option maxRecDepth 20000 in
theorem gX2_adlerJoined_X2_high : GoodIn wsX2_adlerJoined (va_wsS RX2 120 yX2_high wsX2_high) := goodIn_app (goodIn_of _ (by decide +kernel)) ggX2_adlerJoined_X2_high
set_option maxRecDepth 20000 in
theorem ggX2_adlerJoined_X2_adlerOf : GoodIn wsX2_adlerJoined wsX2_adlerOf := goodIn_r _ [20, 21, 22, 23, 3, 24, 25] (by decide +kernel) (by decide +kernel)
set_option maxRecDepth 20000 in
theorem gX2_adlerJoined_X2_adlerOf : GoodIn wsX2_adlerJoined (va_wsS RX2 132 yX2_adlerOf wsX2_adlerOf) := goodIn_app (goodIn_of _ (by decide +kernel)) ggX2_adlerJoined_X2_adlerOf
theorem dX2_adlerJoined_0 : decode cX2_adlerJoined 0 = .ok (.aload_n 0, 1) := by decide +kernel
theorem dX2_adlerJoined_1 : decode cX2_adlerJoined 1 = .ok (.iload_n 1, 1) := by decide +kernel
theorem dX2_adlerJoined_2 : decode cX2_adlerJoined 2 = .ok (.invokestatic 129, 3) := by decide +kernel
theorem dX2_adlerJoined_5 : decode cX2_adlerJoined 5 = .ok (.ifCond .eq 18, 3) := by decide +kernel
theorem dX2_adlerJoined_8 : decode cX2_adlerJoined 8 = .ok (.iload_n 2, 1) := by decide +kernel
theorem dX2_adlerJoined_9 : decode cX2_adlerJoined 9 = .ok (.invokestatic 129, 3) := by decide +kernel
theorem dX2_adlerJoined_12 : decode cX2_adlerJoined 12 = .ok (.ifCond .eq 11, 3) := by decide +kernel
theorem dX2_adlerJoined_15 : decode cX2_adlerJoined 15 = .ok (.iload_n 3, 1) := by decide +kernel
theorem dX2_adlerJoined_16 : decode cX2_adlerJoined 16 = .ok (.ifCond .lt 7, 3) := by decide +kernel
theorem dX2_adlerJoined_19 : decode cX2_adlerJoined 19 = .ok (.iconst 1, 1) := by decide +kernel
theorem dX2_adlerJoined_20 : decode cX2_adlerJoined 20 = .ok (.goto 4, 3) := by decide +kernel
theorem dX2_adlerJoined_23 : decode cX2_adlerJoined 23 = .ok (.iconst 0, 1) := by decide +kernel
theorem dX2_adlerJoined_24 : decode cX2_adlerJoined 24 = .ok (.invokevirtual 69, 3) := by decide +kernel
theorem dX2_adlerJoined_27 : decode cX2_adlerJoined 27 = .ok (.ifCond .ne 5, 3) := by decide +kernel
theorem dX2_adlerJoined_30 : decode cX2_adlerJoined 30 = .ok (.iconst 0, 1) := by decide +kernel
theorem dX2_adlerJoined_31 : decode cX2_adlerJoined 31 = .ok (.ireturn, 1) := by decide +kernel
theorem dX2_adlerJoined_32 : decode cX2_adlerJoined 32 = .ok (.iload_n 1, 1) := by decide +kernel
theorem dX2_adlerJoined_33 : decode cX2_adlerJoined 33 = .ok (.invokestatic 116, 3) := by decide +kernel
theorem dX2_adlerJoined_36 : decode cX2_adlerJoined 36 = .ok (.iload_n 2, 1) := by decide +kernel
theorem dX2_adlerJoined_37 : decode cX2_adlerJoined 37 = .ok (.invokestatic 116, 3) := by decide +kernel
theorem dX2_adlerJoined_40 : decode cX2_adlerJoined 40 = .ok (.iadd, 1) := by decide +kernel
theorem dX2_adlerJoined_41 : decode cX2_adlerJoined 41 = .ok (.iconst 1, 1) := by decide +kernel
theorem dX2_adlerJoined_42 : decode cX2_adlerJoined 42 = .ok (.isub, 1) := by decide +kernel
theorem dX2_adlerJoined_43 : decode cX2_adlerJoined 43 = .ok (.i2l, 1) := by decide +kernel
theorem dX2_adlerJoined_44 : decode cX2_adlerJoined 44 = .ok (.lstore 4, 2) := by decide +kernel
theorem dX2_adlerJoined_46 : decode cX2_adlerJoined 46 = .ok (.iload_n 1, 1) := by decide +kernel
theorem dX2_adlerJoined_47 : decode cX2_adlerJoined 47 = .ok (.invokestatic 120, 3) := by decide +kernel
theorem dX2_adlerJoined_50 : decode cX2_adlerJoined 50 = .ok (.iload_n 2, 1) := by decide +kernel
theorem dX2_adlerJoined_51 : decode cX2_adlerJoined 51 = .ok (.invokestatic 120, 3) := by decide +kernel
theorem dX2_adlerJoined_54 : decode cX2_adlerJoined 54 = .ok (.iadd, 1) := by decide +kernel
theorem dX2_adlerJoined_55 : decode cX2_adlerJoined 55 = .ok (.i2l, 1) := by decide +kernel
theorem dX2_adlerJoined_56 : decode cX2_adlerJoined 56 = .ok (.iload_n 3, 1) := by decide +kernel
theorem dX2_adlerJoined_57 : decode cX2_adlerJoined 57 = .ok (.i2l, 1) := by decide +kernel
theorem dX2_adlerJoined_58 : decode cX2_adlerJoined 58 = .ok (.iload_n 1, 1) := by decide +kernel
theorem dX2_adlerJoined_59 : decode cX2_adlerJoined 59 = .ok (.invokestatic 116, 3) := by decide +kernel
theorem dX2_adlerJoined_62 : decode cX2_adlerJoined 62 = .ok (.iconst 1, 1) := by decide +kernel
theorem dX2_adlerJoined_63 : decode cX2_adlerJoined 63 = .ok (.isub, 1) := by decide +kernel
theorem dX2_adlerJoined_64 : decode cX2_adlerJoined 64 = .ok (.i2l, 1) := by decide +kernel
theorem dX2_adlerJoined_65 : decode cX2_adlerJoined 65 = .ok (.lmul, 1) := by decide +kernel
theorem dX2_adlerJoined_66 : decode cX2_adlerJoined 66 = .ok (.ladd, 1) := by decide +kernel
theorem dX2_adlerJoined_67 : decode cX2_adlerJoined 67 = .ok (.lstore 6, 2) := by decide +kernel
theorem dX2_adlerJoined_69 : decode cX2_adlerJoined 69 = .ok (.lload 4, 2) := by decide +kernel
theorem dX2_adlerJoined_71 : decode cX2_adlerJoined 71 = .ok (.lload 6, 2) := by decide +kernel
theorem dX2_adlerJoined_73 : decode cX2_adlerJoined 73 = .ok (.invokestatic 132, 3) := by decide +kernel
theorem dX2_adlerJoined_76 : decode cX2_adlerJoined 76 = .ok (.ireturn, 1) := by decide +kernel
set_option maxRecDepth 20000 in
theorem ggX2_adlerRolled_X2_isAdler : GoodIn wsX2_adlerRolled wsX2_isAdler := goodIn_r _ [4, 5, 6, 7, 3, 8, 9, 10, 11, 12] (by decide +kernel) (by decide +kernel)
set_option maxRecDepth 20000 in
theorem gX2_adlerRolled_X2_isAdler : GoodIn wsX2_adlerRolled (va_wsS RX2 129 yX2_isAdler wsX2_isAdler) := goodIn_app (goodIn_of _ (by decide +kernel)) ggX2_adlerRolled_X2_isAdler
set_option maxRecDepth 20000 in
theorem ggX2_adlerRolled_X2_isByte : GoodIn wsX2_adlerRolled wsX2_isByte := goodIn_r _ [15, 16, 17, 3, 18] (by decide +kernel) (by decide +kernel)
set_option maxRecDepth 20000 in
theorem gX2_adlerRolled_X2_isByte : GoodIn wsX2_adlerRolled (va_wsS RX2 90 yX2_isByte wsX2_isByte) := goodIn_app (goodIn_of _ (by decide +kernel)) ggX2_adlerRolled_X2_isByte
set_option maxRecDepth 20000 in
theorem ggX2_adlerRolled_X2_asked : GoodIn wsX2_adlerRolled wsX2_asked := goodIn_r _ [22, 23, 32, 33, 34, 35, 36, 37, 38, 39, 40, 41] (by decide +kernel) (by decide +kernel)
set_option maxRecDepth 20000 in
theorem gX2_adlerRolled_X2_asked : GoodIn wsX2_adlerRolled (wsV RX2 69 RX2 yX2_asked wsX2_asked) := goodIn_app (goodIn_of _ (by decide +kernel)) ggX2_adlerRolled_X2_asked
set_option maxRecDepth 20000 in
theorem ggX2_adlerRolled_X2_low : GoodIn wsX2_adlerRolled wsX2_low := goodIn_r _ [8, 9] (by decide +kernel) (by decide +kernel)
set_option maxRecDepth 20000 in
theorem gX2_adlerRolled_X2_low : GoodIn wsX2_adlerRolled (va_wsS RX2 116 yX2_low wsX2_low) := goodIn_app (goodIn_of _ (by decide +kernel)) ggX2_adlerRolled_X2_low
set_option maxRecDepth 20000 in
theorem ggX2_adlerRolled_X2_high : GoodIn wsX2_adlerRolled wsX2_high := goodIn_r _ [12] (by decide +kernel) (by decide +kernel)
set_option maxRecDepth 20000 in
theorem gX2_adlerRolled_X2_high : GoodIn wsX2_adlerRolled (va_wsS RX2 120 yX2_high wsX2_high) := goodIn_app (goodIn_of _ (by decide +kernel)) ggX2_adlerRolled_X2_high
set_option maxRecDepth 20000 in
theorem ggX2_adlerRolled_X2_adlerOf : GoodIn wsX2_adlerRolled wsX2_adlerOf := goodIn_r _ [26, 27, 28, 29, 3, 30, 31] (by decide +kernel) (by decide +kernel)
set_option maxRecDepth 20000 in
theorem gX2_adlerRolled_X2_adlerOf : GoodIn wsX2_adlerRolled (va_wsS RX2 132 yX2_adlerOf wsX2_adlerOf) := goodIn_app (goodIn_of _ (by decide +kernel)) ggX2_adlerRolled_X2_adlerOf
theorem dX2_adlerRolled_0 : decode cX2_adlerRolled 0 = .ok (.aload_n 0, 1) := by decide +kernel
theorem dX2_adlerRolled_1 : decode cX2_adlerRolled 1 = .ok (.iload_n 1, 1) := by decide +kernel
theorem dX2_adlerRolled_2 : decode cX2_adlerRolled 2 = .ok (.invokestatic 129, 3) := by decide +kernel
theorem dX2_adlerRolled_5 : decode cX2_adlerRolled 5 = .ok (.ifCond .eq 27, 3) := by decide +kernel
theorem dX2_adlerRolled_8 : decode cX2_adlerRolled 8 = .ok (.iload_n 2, 1) := by decide +kernel
theorem dX2_adlerRolled_9 : decode cX2_adlerRolled 9 = .ok (.iconst 1, 1) := by decide +kernel
theorem dX2_adlerRolled_10 : decode cX2_adlerRolled 10 = .ok (.if_icmp .lt 22, 3) := by decide +kernel
theorem dX2_adlerRolled_13 : decode cX2_adlerRolled 13 = .ok (.iload_n 3, 1) := by decide +kernel
theorem dX2_adlerRolled_14 : decode cX2_adlerRolled 14 = .ok (.invokestatic 90, 3) := by decide +kernel
theorem dX2_adlerRolled_17 : decode cX2_adlerRolled 17 = .ok (.ifCond .eq 15, 3) := by decide +kernel
theorem dX2_adlerRolled_20 : decode cX2_adlerRolled 20 = .ok (.iload 4, 2) := by decide +kernel
theorem dX2_adlerRolled_22 : decode cX2_adlerRolled 22 = .ok (.invokestatic 90, 3) := by decide +kernel
theorem dX2_adlerRolled_25 : decode cX2_adlerRolled 25 = .ok (.ifCond .eq 7, 3) := by decide +kernel
theorem dX2_adlerRolled_28 : decode cX2_adlerRolled 28 = .ok (.iconst 1, 1) := by decide +kernel
theorem dX2_adlerRolled_29 : decode cX2_adlerRolled 29 = .ok (.goto 4, 3) := by decide +kernel
theorem dX2_adlerRolled_32 : decode cX2_adlerRolled 32 = .ok (.iconst 0, 1) := by decide +kernel
theorem dX2_adlerRolled_33 : decode cX2_adlerRolled 33 = .ok (.invokevirtual 69, 3) := by decide +kernel
theorem dX2_adlerRolled_36 : decode cX2_adlerRolled 36 = .ok (.ifCond .ne 5, 3) := by decide +kernel
theorem dX2_adlerRolled_39 : decode cX2_adlerRolled 39 = .ok (.iconst 0, 1) := by decide +kernel
theorem dX2_adlerRolled_40 : decode cX2_adlerRolled 40 = .ok (.ireturn, 1) := by decide +kernel
theorem dX2_adlerRolled_41 : decode cX2_adlerRolled 41 = .ok (.iload_n 1, 1) := by decide +kernel
theorem dX2_adlerRolled_42 : decode cX2_adlerRolled 42 = .ok (.invokestatic 116, 3) := by decide +kernel
theorem dX2_adlerRolled_45 : decode cX2_adlerRolled 45 = .ok (.iload 4, 2) := by decide +kernel
theorem dX2_adlerRolled_47 : decode cX2_adlerRolled 47 = .ok (.iadd, 1) := by decide +kernel
theorem dX2_adlerRolled_48 : decode cX2_adlerRolled 48 = .ok (.iload_n 3, 1) := by decide +kernel
theorem dX2_adlerRolled_49 : decode cX2_adlerRolled 49 = .ok (.isub, 1) := by decide +kernel
theorem dX2_adlerRolled_50 : decode cX2_adlerRolled 50 = .ok (.i2l, 1) := by decide +kernel
theorem dX2_adlerRolled_51 : decode cX2_adlerRolled 51 = .ok (.lstore 5, 2) := by decide +kernel
theorem dX2_adlerRolled_53 : decode cX2_adlerRolled 53 = .ok (.iload_n 1, 1) := by decide +kernel
theorem dX2_adlerRolled_54 : decode cX2_adlerRolled 54 = .ok (.invokestatic 120, 3) := by decide +kernel
theorem dX2_adlerRolled_57 : decode cX2_adlerRolled 57 = .ok (.i2l, 1) := by decide +kernel
theorem dX2_adlerRolled_58 : decode cX2_adlerRolled 58 = .ok (.iload_n 2, 1) := by decide +kernel
theorem dX2_adlerRolled_59 : decode cX2_adlerRolled 59 = .ok (.i2l, 1) := by decide +kernel
theorem dX2_adlerRolled_60 : decode cX2_adlerRolled 60 = .ok (.iload_n 3, 1) := by decide +kernel
theorem dX2_adlerRolled_61 : decode cX2_adlerRolled 61 = .ok (.i2l, 1) := by decide +kernel
theorem dX2_adlerRolled_62 : decode cX2_adlerRolled 62 = .ok (.lmul, 1) := by decide +kernel
theorem dX2_adlerRolled_63 : decode cX2_adlerRolled 63 = .ok (.lsub, 1) := by decide +kernel
theorem dX2_adlerRolled_64 : decode cX2_adlerRolled 64 = .ok (.lload 5, 2) := by decide +kernel
theorem dX2_adlerRolled_66 : decode cX2_adlerRolled 66 = .ok (.ladd, 1) := by decide +kernel
theorem dX2_adlerRolled_67 : decode cX2_adlerRolled 67 = .ok (.lconst 1, 1) := by decide +kernel
theorem dX2_adlerRolled_68 : decode cX2_adlerRolled 68 = .ok (.lsub, 1) := by decide +kernel
theorem dX2_adlerRolled_69 : decode cX2_adlerRolled 69 = .ok (.lstore 7, 2) := by decide +kernel
theorem dX2_adlerRolled_71 : decode cX2_adlerRolled 71 = .ok (.lload 5, 2) := by decide +kernel
theorem dX2_adlerRolled_73 : decode cX2_adlerRolled 73 = .ok (.lload 7, 2) := by decide +kernel
theorem dX2_adlerRolled_75 : decode cX2_adlerRolled 75 = .ok (.invokestatic 132, 3) := by decide +kernel
theorem dX2_adlerRolled_78 : decode cX2_adlerRolled 78 = .ok (.ireturn, 1) := by decide +kernel
