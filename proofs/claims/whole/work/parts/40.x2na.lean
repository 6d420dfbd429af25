theorem dX2_init_0 : decode cX2_init 0 = .ok (.aload_n 0, 1) := by decide +kernel
theorem dX2_init_1 : decode cX2_init 1 = .ok (.invokespecial 1, 3) := by decide +kernel
theorem dX2_init_4 : decode cX2_init 4 = .ok (.aload_n 0, 1) := by decide +kernel
theorem dX2_init_5 : decode cX2_init 5 = .ok (.bipush 6, 2) := by decide +kernel
theorem dX2_init_7 : decode cX2_init 7 = .ok (.newarray .int, 2) := by decide +kernel
theorem dX2_init_9 : decode cX2_init 9 = .ok (.putfield 7, 3) := by decide +kernel
theorem dX2_init_12 : decode cX2_init 12 = .ok (.aload_n 0, 1) := by decide +kernel
theorem dX2_init_13 : decode cX2_init 13 = .ok (.bipush 6, 2) := by decide +kernel
theorem dX2_init_15 : decode cX2_init 15 = .ok (.newarray .int, 2) := by decide +kernel
theorem dX2_init_17 : decode cX2_init 17 = .ok (.putfield 13, 3) := by decide +kernel
theorem dX2_init_20 : decode cX2_init 20 = .ok (.aload_n 0, 1) := by decide +kernel
theorem dX2_init_21 : decode cX2_init 21 = .ok (.bipush 6, 2) := by decide +kernel
theorem dX2_init_23 : decode cX2_init 23 = .ok (.newarray .int, 2) := by decide +kernel
theorem dX2_init_25 : decode cX2_init 25 = .ok (.putfield 16, 3) := by decide +kernel
theorem dX2_init_28 : decode cX2_init 28 = .ok (.aload_n 0, 1) := by decide +kernel
theorem dX2_init_29 : decode cX2_init 29 = .ok (.bipush 6, 2) := by decide +kernel
theorem dX2_init_31 : decode cX2_init 31 = .ok (.newarray .int, 2) := by decide +kernel
theorem dX2_init_33 : decode cX2_init 33 = .ok (.putfield 19, 3) := by decide +kernel
theorem dX2_init_36 : decode cX2_init 36 = .ok (.aload_n 0, 1) := by decide +kernel
theorem dX2_init_37 : decode cX2_init 37 = .ok (.bipush 6, 2) := by decide +kernel
theorem dX2_init_39 : decode cX2_init 39 = .ok (.newarray .boolean, 2) := by decide +kernel
theorem dX2_init_41 : decode cX2_init 41 = .ok (.putfield 22, 3) := by decide +kernel
theorem dX2_init_44 : decode cX2_init 44 = .ok (.aload_n 0, 1) := by decide +kernel
theorem dX2_init_45 : decode cX2_init 45 = .ok (.bipush 6, 2) := by decide +kernel
theorem dX2_init_47 : decode cX2_init 47 = .ok (.newarray .boolean, 2) := by decide +kernel
theorem dX2_init_49 : decode cX2_init 49 = .ok (.putfield 26, 3) := by decide +kernel
theorem dX2_init_52 : decode cX2_init 52 = .ok (.aload_n 0, 1) := by decide +kernel
theorem dX2_init_53 : decode cX2_init 53 = .ok (.sipush 1024, 3) := by decide +kernel
theorem dX2_init_56 : decode cX2_init 56 = .ok (.newarray .int, 2) := by decide +kernel
theorem dX2_init_58 : decode cX2_init 58 = .ok (.putfield 29, 3) := by decide +kernel
theorem dX2_init_61 : decode cX2_init 61 = .ok (.aload_n 0, 1) := by decide +kernel
theorem dX2_init_62 : decode cX2_init 62 = .ok (.iconst 4, 1) := by decide +kernel
theorem dX2_init_63 : decode cX2_init 63 = .ok (.newarray .int, 2) := by decide +kernel
theorem dX2_init_65 : decode cX2_init 65 = .ok (.putfield 32, 3) := by decide +kernel
theorem dX2_init_68 : decode cX2_init 68 = .ok (.return_, 1) := by decide +kernel
theorem dX2_thrown_0 : decode cX2_thrown 0 = .ok (.aload_n 0, 1) := by decide +kernel
theorem dX2_thrown_1 : decode cX2_thrown 1 = .ok (.getfield 35, 3) := by decide +kernel
theorem dX2_thrown_4 : decode cX2_thrown 4 = .ok (.ireturn, 1) := by decide +kernel
theorem dX2_in_0 : decode cX2_in 0 = .ok (.iload_n 0, 1) := by decide +kernel
theorem dX2_in_1 : decode cX2_in 1 = .ok (.iload_n 1, 1) := by decide +kernel
theorem dX2_in_2 : decode cX2_in 2 = .ok (.if_icmp .lt 12, 3) := by decide +kernel
theorem dX2_in_5 : decode cX2_in 5 = .ok (.iload_n 0, 1) := by decide +kernel
theorem dX2_in_6 : decode cX2_in 6 = .ok (.iload_n 2, 1) := by decide +kernel
theorem dX2_in_7 : decode cX2_in 7 = .ok (.if_icmp .gt 7, 3) := by decide +kernel
theorem dX2_in_10 : decode cX2_in 10 = .ok (.iconst 1, 1) := by decide +kernel
theorem dX2_in_11 : decode cX2_in 11 = .ok (.goto 4, 3) := by decide +kernel
theorem dX2_in_14 : decode cX2_in 14 = .ok (.iconst 0, 1) := by decide +kernel
theorem dX2_in_15 : decode cX2_in 15 = .ok (.ireturn, 1) := by decide +kernel
set_option maxRecDepth 20000 in
theorem ggX2_isModel_X2_in : GoodIn wsX2_isModel wsX2_in := goodIn_r _ [5] (by decide +kernel) (by decide +kernel)
set_option maxRecDepth 20000 in
theorem gX2_isModel_X2_in : GoodIn wsX2_isModel (va_wsS RX2 42 yX2_in wsX2_in) := goodIn_app (goodIn_of _ (by decide +kernel)) ggX2_isModel_X2_in
theorem dX2_isModel_0 : decode cX2_isModel 0 = .ok (.iload_n 1, 1) := by decide +kernel
theorem dX2_isModel_1 : decode cX2_isModel 1 = .ok (.iconst 0, 1) := by decide +kernel
theorem dX2_isModel_2 : decode cX2_isModel 2 = .ok (.aload_n 0, 1) := by decide +kernel
theorem dX2_isModel_3 : decode cX2_isModel 3 = .ok (.getfield 39, 3) := by decide +kernel
theorem dX2_isModel_6 : decode cX2_isModel 6 = .ok (.iconst 1, 1) := by decide +kernel
theorem dX2_isModel_7 : decode cX2_isModel 7 = .ok (.isub, 1) := by decide +kernel
theorem dX2_isModel_8 : decode cX2_isModel 8 = .ok (.invokestatic 42, 3) := by decide +kernel
theorem dX2_isModel_11 : decode cX2_isModel 11 = .ok (.ireturn, 1) := by decide +kernel
set_option maxRecDepth 20000 in
theorem ggX2_isRow_X2_in : GoodIn wsX2_isRow wsX2_in := goodIn_r _ [4] (by decide +kernel) (by decide +kernel)
set_option maxRecDepth 20000 in
theorem gX2_isRow_X2_in : GoodIn wsX2_isRow (va_wsS RX2 42 yX2_in wsX2_in) := goodIn_app (goodIn_of _ (by decide +kernel)) ggX2_isRow_X2_in
theorem dX2_isRow_0 : decode cX2_isRow 0 = .ok (.iload_n 0, 1) := by decide +kernel
theorem dX2_isRow_1 : decode cX2_isRow 1 = .ok (.iconst 0, 1) := by decide +kernel
theorem dX2_isRow_2 : decode cX2_isRow 2 = .ok (.iconst 3, 1) := by decide +kernel
theorem dX2_isRow_3 : decode cX2_isRow 3 = .ok (.invokestatic 42, 3) := by decide +kernel
theorem dX2_isRow_6 : decode cX2_isRow 6 = .ok (.ireturn, 1) := by decide +kernel
set_option maxRecDepth 20000 in
theorem ggX2_isByte_X2_in : GoodIn wsX2_isByte wsX2_in := goodIn_r _ [4] (by decide +kernel) (by decide +kernel)
set_option maxRecDepth 20000 in
theorem gX2_isByte_X2_in : GoodIn wsX2_isByte (va_wsS RX2 42 yX2_in wsX2_in) := goodIn_app (goodIn_of _ (by decide +kernel)) ggX2_isByte_X2_in
theorem dX2_isByte_0 : decode cX2_isByte 0 = .ok (.iload_n 0, 1) := by decide +kernel
theorem dX2_isByte_1 : decode cX2_isByte 1 = .ok (.iconst 0, 1) := by decide +kernel
theorem dX2_isByte_2 : decode cX2_isByte 2 = .ok (.sipush 255, 3) := by decide +kernel
theorem dX2_isByte_5 : decode cX2_isByte 5 = .ok (.invokestatic 42, 3) := by decide +kernel
theorem dX2_isByte_8 : decode cX2_isByte 8 = .ok (.ireturn, 1) := by decide +kernel
theorem dX2_hasBits_0 : decode cX2_hasBits 0 = .ok (.iload_n 1, 1) := by decide +kernel
theorem dX2_hasBits_1 : decode cX2_hasBits 1 = .ok (.bipush 32, 2) := by decide +kernel
theorem dX2_hasBits_3 : decode cX2_hasBits 3 = .ok (.if_icmp .eq 9, 3) := by decide +kernel
theorem dX2_hasBits_6 : decode cX2_hasBits 6 = .ok (.iload_n 0, 1) := by decide +kernel
theorem dX2_hasBits_7 : decode cX2_hasBits 7 = .ok (.iload_n 1, 1) := by decide +kernel
theorem dX2_hasBits_8 : decode cX2_hasBits 8 = .ok (.iushr, 1) := by decide +kernel
theorem dX2_hasBits_9 : decode cX2_hasBits 9 = .ok (.ifCond .ne 7, 3) := by decide +kernel
theorem dX2_hasBits_12 : decode cX2_hasBits 12 = .ok (.iconst 1, 1) := by decide +kernel
theorem dX2_hasBits_13 : decode cX2_hasBits 13 = .ok (.goto 4, 3) := by decide +kernel
theorem dX2_hasBits_16 : decode cX2_hasBits 16 = .ok (.iconst 0, 1) := by decide +kernel
theorem dX2_hasBits_17 : decode cX2_hasBits 17 = .ok (.ireturn, 1) := by decide +kernel
set_option maxRecDepth 20000 in
theorem ggX2_isNumber_X2_hasBits : GoodIn wsX2_isNumber wsX2_hasBits := goodIn_r _ [5] (by decide +kernel) (by decide +kernel)
set_option maxRecDepth 20000 in
theorem gX2_isNumber_X2_hasBits : GoodIn wsX2_isNumber (va_wsS RX2 46 yX2_hasBits wsX2_hasBits) := goodIn_app (goodIn_of _ (by decide +kernel)) ggX2_isNumber_X2_hasBits
theorem dX2_isNumber_0 : decode cX2_isNumber 0 = .ok (.iload_n 2, 1) := by decide +kernel
theorem dX2_isNumber_1 : decode cX2_isNumber 1 = .ok (.aload_n 0, 1) := by decide +kernel
theorem dX2_isNumber_2 : decode cX2_isNumber 2 = .ok (.getfield 7, 3) := by decide +kernel
theorem dX2_isNumber_5 : decode cX2_isNumber 5 = .ok (.iload_n 1, 1) := by decide +kernel
theorem dX2_isNumber_6 : decode cX2_isNumber 6 = .ok (.iaload, 1) := by decide +kernel
theorem dX2_isNumber_7 : decode cX2_isNumber 7 = .ok (.invokestatic 46, 3) := by decide +kernel
theorem dX2_isNumber_10 : decode cX2_isNumber 10 = .ok (.ireturn, 1) := by decide +kernel
theorem dX2_asked_0 : decode cX2_asked 0 = .ok (.aload_n 0, 1) := by decide +kernel
theorem dX2_asked_1 : decode cX2_asked 1 = .ok (.iload_n 1, 1) := by decide +kernel
theorem dX2_asked_2 : decode cX2_asked 2 = .ok (.ifCond .eq 7, 3) := by decide +kernel
theorem dX2_asked_5 : decode cX2_asked 5 = .ok (.iconst 0, 1) := by decide +kernel
theorem dX2_asked_6 : decode cX2_asked 6 = .ok (.goto 4, 3) := by decide +kernel
theorem dX2_asked_9 : decode cX2_asked 9 = .ok (.iconst 1, 1) := by decide +kernel
theorem dX2_asked_10 : decode cX2_asked 10 = .ok (.putfield 35, 3) := by decide +kernel
theorem dX2_asked_13 : decode cX2_asked 13 = .ok (.iload_n 1, 1) := by decide +kernel
theorem dX2_asked_14 : decode cX2_asked 14 = .ok (.ireturn, 1) := by decide +kernel
theorem dX2_asked__0 : decode cX2_asked_ 0 = .ok (.aload_n 0, 1) := by decide +kernel
theorem dX2_asked__1 : decode cX2_asked_ 1 = .ok (.iload_n 1, 1) := by decide +kernel
theorem dX2_asked__2 : decode cX2_asked_ 2 = .ok (.ifCond .ne 7, 3) := by decide +kernel
theorem dX2_asked__5 : decode cX2_asked_ 5 = .ok (.iconst 1, 1) := by decide +kernel
theorem dX2_asked__6 : decode cX2_asked_ 6 = .ok (.goto 12, 3) := by decide +kernel
theorem dX2_asked__9 : decode cX2_asked_ 9 = .ok (.iload_n 2, 1) := by decide +kernel
theorem dX2_asked__10 : decode cX2_asked_ 10 = .ok (.ifCond .eq 7, 3) := by decide +kernel
theorem dX2_asked__13 : decode cX2_asked_ 13 = .ok (.iconst 0, 1) := by decide +kernel
theorem dX2_asked__14 : decode cX2_asked_ 14 = .ok (.goto 4, 3) := by decide +kernel
theorem dX2_asked__17 : decode cX2_asked_ 17 = .ok (.iconst 2, 1) := by decide +kernel
theorem dX2_asked__18 : decode cX2_asked_ 18 = .ok (.putfield 35, 3) := by decide +kernel
theorem dX2_asked__21 : decode cX2_asked_ 21 = .ok (.aload_n 0, 1) := by decide +kernel
theorem dX2_asked__22 : decode cX2_asked_ 22 = .ok (.getfield 35, 3) := by decide +kernel
theorem dX2_asked__25 : decode cX2_asked_ 25 = .ok (.ifCond .ne 7, 3) := by decide +kernel
theorem dX2_asked__28 : decode cX2_asked_ 28 = .ok (.iconst 1, 1) := by decide +kernel
theorem dX2_asked__29 : decode cX2_asked_ 29 = .ok (.goto 4, 3) := by decide +kernel
theorem dX2_asked__32 : decode cX2_asked_ 32 = .ok (.iconst 0, 1) := by decide +kernel
theorem dX2_asked__33 : decode cX2_asked_ 33 = .ok (.ireturn, 1) := by decide +kernel
theorem dX2_timesX_0 : decode cX2_timesX 0 = .ok (.iload_n 2, 1) := by decide +kernel
theorem dX2_timesX_1 : decode cX2_timesX 1 = .ok (.aload_n 0, 1) := by decide +kernel
theorem dX2_timesX_2 : decode cX2_timesX 2 = .ok (.getfield 7, 3) := by decide +kernel
theorem dX2_timesX_5 : decode cX2_timesX 5 = .ok (.iload_n 1, 1) := by decide +kernel
theorem dX2_timesX_6 : decode cX2_timesX 6 = .ok (.iaload, 1) := by decide +kernel
theorem dX2_timesX_7 : decode cX2_timesX 7 = .ok (.iconst 1, 1) := by decide +kernel
theorem dX2_timesX_8 : decode cX2_timesX 8 = .ok (.isub, 1) := by decide +kernel
theorem dX2_timesX_9 : decode cX2_timesX 9 = .ok (.iushr, 1) := by decide +kernel
theorem dX2_timesX_10 : decode cX2_timesX 10 = .ok (.iconst 1, 1) := by decide +kernel
theorem dX2_timesX_11 : decode cX2_timesX 11 = .ok (.iand, 1) := by decide +kernel
theorem dX2_timesX_12 : decode cX2_timesX 12 = .ok (.iconst 1, 1) := by decide +kernel
theorem dX2_timesX_13 : decode cX2_timesX 13 = .ok (.if_icmp .ne 7, 3) := by decide +kernel
theorem dX2_timesX_16 : decode cX2_timesX 16 = .ok (.iconst 1, 1) := by decide +kernel
theorem dX2_timesX_17 : decode cX2_timesX 17 = .ok (.goto 4, 3) := by decide +kernel
theorem dX2_timesX_20 : decode cX2_timesX 20 = .ok (.iconst 0, 1) := by decide +kernel
theorem dX2_timesX_21 : decode cX2_timesX 21 = .ok (.istore_n 3, 1) := by decide +kernel
theorem dX2_timesX_22 : decode cX2_timesX 22 = .ok (.aload_n 0, 1) := by decide +kernel
theorem dX2_timesX_23 : decode cX2_timesX 23 = .ok (.getfield 7, 3) := by decide +kernel
theorem dX2_timesX_26 : decode cX2_timesX 26 = .ok (.iload_n 1, 1) := by decide +kernel
theorem dX2_timesX_27 : decode cX2_timesX 27 = .ok (.iaload, 1) := by decide +kernel
theorem dX2_timesX_28 : decode cX2_timesX 28 = .ok (.bipush 32, 2) := by decide +kernel
theorem dX2_timesX_30 : decode cX2_timesX 30 = .ok (.if_icmp .ne 9, 3) := by decide +kernel
theorem dX2_timesX_33 : decode cX2_timesX 33 = .ok (.iload_n 2, 1) := by decide +kernel
theorem dX2_timesX_34 : decode cX2_timesX 34 = .ok (.iconst 1, 1) := by decide +kernel
theorem dX2_timesX_35 : decode cX2_timesX 35 = .ok (.ishl, 1) := by decide +kernel
theorem dX2_timesX_36 : decode cX2_timesX 36 = .ok (.goto 17, 3) := by decide +kernel
theorem dX2_timesX_39 : decode cX2_timesX 39 = .ok (.iload_n 2, 1) := by decide +kernel
theorem dX2_timesX_40 : decode cX2_timesX 40 = .ok (.iconst 1, 1) := by decide +kernel
theorem dX2_timesX_41 : decode cX2_timesX 41 = .ok (.ishl, 1) := by decide +kernel
theorem dX2_timesX_42 : decode cX2_timesX 42 = .ok (.iconst 1, 1) := by decide +kernel
theorem dX2_timesX_43 : decode cX2_timesX 43 = .ok (.aload_n 0, 1) := by decide +kernel
theorem dX2_timesX_44 : decode cX2_timesX 44 = .ok (.getfield 7, 3) := by decide +kernel
theorem dX2_timesX_47 : decode cX2_timesX 47 = .ok (.iload_n 1, 1) := by decide +kernel
theorem dX2_timesX_48 : decode cX2_timesX 48 = .ok (.iaload, 1) := by decide +kernel
theorem dX2_timesX_49 : decode cX2_timesX 49 = .ok (.ishl, 1) := by decide +kernel
theorem dX2_timesX_50 : decode cX2_timesX 50 = .ok (.iconst 1, 1) := by decide +kernel
theorem dX2_timesX_51 : decode cX2_timesX 51 = .ok (.isub, 1) := by decide +kernel
theorem dX2_timesX_52 : decode cX2_timesX 52 = .ok (.iand, 1) := by decide +kernel
theorem dX2_timesX_53 : decode cX2_timesX 53 = .ok (.istore 4, 2) := by decide +kernel
theorem dX2_timesX_55 : decode cX2_timesX 55 = .ok (.iload_n 3, 1) := by decide +kernel
theorem dX2_timesX_56 : decode cX2_timesX 56 = .ok (.ifCond .eq 15, 3) := by decide +kernel
theorem dX2_timesX_59 : decode cX2_timesX 59 = .ok (.iload 4, 2) := by decide +kernel
theorem dX2_timesX_61 : decode cX2_timesX 61 = .ok (.aload_n 0, 1) := by decide +kernel
theorem dX2_timesX_62 : decode cX2_timesX 62 = .ok (.getfield 13, 3) := by decide +kernel
theorem dX2_timesX_65 : decode cX2_timesX 65 = .ok (.iload_n 1, 1) := by decide +kernel
theorem dX2_timesX_66 : decode cX2_timesX 66 = .ok (.iaload, 1) := by decide +kernel
theorem dX2_timesX_67 : decode cX2_timesX 67 = .ok (.ixor, 1) := by decide +kernel
theorem dX2_timesX_68 : decode cX2_timesX 68 = .ok (.goto 5, 3) := by decide +kernel
theorem dX2_timesX_71 : decode cX2_timesX 71 = .ok (.iload 4, 2) := by decide +kernel
theorem dX2_timesX_73 : decode cX2_timesX 73 = .ok (.ireturn, 1) := by decide +kernel
set_option maxRecDepth 20000 in
theorem ggX2_times_X2_timesX : GoodIn wsX2_times wsX2_timesX := goodIn_r _ [5, 6, 7, 8, 9, 10, 11, 12, 13, 14, 15, 16, 17] (by decide +kernel) (by decide +kernel)
set_option maxRecDepth 20000 in
theorem gX2_times_X2_timesX : GoodIn wsX2_times (wsV RX2 50 RX2 yX2_timesX wsX2_timesX) := goodIn_app (goodIn_of _ (by decide +kernel)) ggX2_times_X2_timesX
theorem dX2_times_0 : decode cX2_times 0 = .ok (.iconst 0, 1) := by decide +kernel
theorem dX2_times_1 : decode cX2_times 1 = .ok (.istore 5, 2) := by decide +kernel
theorem dX2_times_3 : decode cX2_times 3 = .ok (.iload 4, 2) := by decide +kernel
theorem dX2_times_5 : decode cX2_times 5 = .ok (.iconst 1, 1) := by decide +kernel
theorem dX2_times_6 : decode cX2_times 6 = .ok (.isub, 1) := by decide +kernel
theorem dX2_times_7 : decode cX2_times 7 = .ok (.istore 6, 2) := by decide +kernel
theorem dX2_times_9 : decode cX2_times 9 = .ok (.iload 6, 2) := by decide +kernel
theorem dX2_times_11 : decode cX2_times 11 = .ok (.ifCond .lt 39, 3) := by decide +kernel
theorem dX2_times_14 : decode cX2_times 14 = .ok (.aload_n 0, 1) := by decide +kernel
theorem dX2_times_15 : decode cX2_times 15 = .ok (.iload_n 1, 1) := by decide +kernel
theorem dX2_times_16 : decode cX2_times 16 = .ok (.iload 5, 2) := by decide +kernel
theorem dX2_times_18 : decode cX2_times 18 = .ok (.invokevirtual 50, 3) := by decide +kernel
theorem dX2_times_21 : decode cX2_times 21 = .ok (.istore 5, 2) := by decide +kernel
theorem dX2_times_23 : decode cX2_times 23 = .ok (.iload_n 3, 1) := by decide +kernel
theorem dX2_times_24 : decode cX2_times 24 = .ok (.iload 6, 2) := by decide +kernel
theorem dX2_times_26 : decode cX2_times 26 = .ok (.iushr, 1) := by decide +kernel
theorem dX2_times_27 : decode cX2_times 27 = .ok (.iconst 1, 1) := by decide +kernel
theorem dX2_times_28 : decode cX2_times 28 = .ok (.iand, 1) := by decide +kernel
theorem dX2_times_29 : decode cX2_times 29 = .ok (.iconst 1, 1) := by decide +kernel
theorem dX2_times_30 : decode cX2_times 30 = .ok (.if_icmp .ne 10, 3) := by decide +kernel
theorem dX2_times_33 : decode cX2_times 33 = .ok (.iload 5, 2) := by decide +kernel
theorem dX2_times_35 : decode cX2_times 35 = .ok (.iload_n 2, 1) := by decide +kernel
theorem dX2_times_36 : decode cX2_times 36 = .ok (.ixor, 1) := by decide +kernel
theorem dX2_times_37 : decode cX2_times 37 = .ok (.goto 5, 3) := by decide +kernel
theorem dX2_times_40 : decode cX2_times 40 = .ok (.iload 5, 2) := by decide +kernel
theorem dX2_times_42 : decode cX2_times 42 = .ok (.istore 5, 2) := by decide +kernel
theorem dX2_times_44 : decode cX2_times 44 = .ok (.iinc 6 (-1), 3) := by decide +kernel
theorem dX2_times_47 : decode cX2_times 47 = .ok (.goto (-38), 3) := by decide +kernel
theorem dX2_times_50 : decode cX2_times 50 = .ok (.iload 5, 2) := by decide +kernel
theorem dX2_times_52 : decode cX2_times 52 = .ok (.ireturn, 1) := by decide +kernel
set_option maxRecDepth 20000 in
theorem ggX2_powerOf_X2_times : GoodIn wsX2_powerOf wsX2_times := goodIn_r _ [6, 7, 8, 9, 5, 10, 1, 11, 12, 13, 14, 15, 16, 17, 18, 19, 20, 21] (by decide +kernel) (by decide +kernel)
set_option maxRecDepth 20000 in
theorem gX2_powerOf_X2_times : GoodIn wsX2_powerOf (wsV RX2 54 RX2 yX2_times wsX2_times) := goodIn_app (goodIn_of _ (by decide +kernel)) ggX2_powerOf_X2_times
set_option maxRecDepth 20000 in
theorem ggX2_powerOf_X2_timesX : GoodIn wsX2_powerOf wsX2_timesX := goodIn_r _ [10, 1, 11, 12, 13, 14, 15, 16, 17, 18, 19, 20, 21] (by decide +kernel) (by decide +kernel)
set_option maxRecDepth 20000 in
theorem gX2_powerOf_X2_timesX : GoodIn wsX2_powerOf (wsV RX2 50 RX2 yX2_timesX wsX2_timesX) := goodIn_app (goodIn_of _ (by decide +kernel)) ggX2_powerOf_X2_timesX
theorem dX2_powerOf_0 : decode cX2_powerOf 0 = .ok (.iconst 1, 1) := by decide +kernel
theorem dX2_powerOf_1 : decode cX2_powerOf 1 = .ok (.istore 4, 2) := by decide +kernel
theorem dX2_powerOf_3 : decode cX2_powerOf 3 = .ok (.bipush 62, 2) := by decide +kernel
theorem dX2_powerOf_5 : decode cX2_powerOf 5 = .ok (.istore 5, 2) := by decide +kernel
theorem dX2_powerOf_7 : decode cX2_powerOf 7 = .ok (.iload 5, 2) := by decide +kernel
theorem dX2_powerOf_9 : decode cX2_powerOf 9 = .ok (.ifCond .lt 51, 3) := by decide +kernel
theorem dX2_powerOf_12 : decode cX2_powerOf 12 = .ok (.aload_n 0, 1) := by decide +kernel
theorem dX2_powerOf_13 : decode cX2_powerOf 13 = .ok (.iload_n 1, 1) := by decide +kernel
theorem dX2_powerOf_14 : decode cX2_powerOf 14 = .ok (.iload 4, 2) := by decide +kernel
theorem dX2_powerOf_16 : decode cX2_powerOf 16 = .ok (.iload 4, 2) := by decide +kernel
theorem dX2_powerOf_18 : decode cX2_powerOf 18 = .ok (.aload_n 0, 1) := by decide +kernel
theorem dX2_powerOf_19 : decode cX2_powerOf 19 = .ok (.getfield 7, 3) := by decide +kernel
theorem dX2_powerOf_22 : decode cX2_powerOf 22 = .ok (.iload_n 1, 1) := by decide +kernel
theorem dX2_powerOf_23 : decode cX2_powerOf 23 = .ok (.iaload, 1) := by decide +kernel
theorem dX2_powerOf_24 : decode cX2_powerOf 24 = .ok (.invokevirtual 54, 3) := by decide +kernel
theorem dX2_powerOf_27 : decode cX2_powerOf 27 = .ok (.istore 4, 2) := by decide +kernel
theorem dX2_powerOf_29 : decode cX2_powerOf 29 = .ok (.lload_n 2, 1) := by decide +kernel
theorem dX2_powerOf_30 : decode cX2_powerOf 30 = .ok (.iload 5, 2) := by decide +kernel
theorem dX2_powerOf_32 : decode cX2_powerOf 32 = .ok (.lshr, 1) := by decide +kernel
theorem dX2_powerOf_33 : decode cX2_powerOf 33 = .ok (.lconst 1, 1) := by decide +kernel
theorem dX2_powerOf_34 : decode cX2_powerOf 34 = .ok (.land, 1) := by decide +kernel
theorem dX2_powerOf_35 : decode cX2_powerOf 35 = .ok (.lconst 1, 1) := by decide +kernel
theorem dX2_powerOf_36 : decode cX2_powerOf 36 = .ok (.lcmp, 1) := by decide +kernel
theorem dX2_powerOf_37 : decode cX2_powerOf 37 = .ok (.ifCond .ne 13, 3) := by decide +kernel
theorem dX2_powerOf_40 : decode cX2_powerOf 40 = .ok (.aload_n 0, 1) := by decide +kernel
theorem dX2_powerOf_41 : decode cX2_powerOf 41 = .ok (.iload_n 1, 1) := by decide +kernel
theorem dX2_powerOf_42 : decode cX2_powerOf 42 = .ok (.iload 4, 2) := by decide +kernel
theorem dX2_powerOf_44 : decode cX2_powerOf 44 = .ok (.invokevirtual 50, 3) := by decide +kernel
theorem dX2_powerOf_47 : decode cX2_powerOf 47 = .ok (.goto 5, 3) := by decide +kernel
theorem dX2_powerOf_50 : decode cX2_powerOf 50 = .ok (.iload 4, 2) := by decide +kernel
theorem dX2_powerOf_52 : decode cX2_powerOf 52 = .ok (.istore 4, 2) := by decide +kernel
theorem dX2_powerOf_54 : decode cX2_powerOf 54 = .ok (.iinc 5 (-1), 3) := by decide +kernel
theorem dX2_powerOf_57 : decode cX2_powerOf 57 = .ok (.goto (-50), 3) := by decide +kernel
theorem dX2_powerOf_60 : decode cX2_powerOf 60 = .ok (.iload 4, 2) := by decide +kernel
theorem dX2_powerOf_62 : decode cX2_powerOf 62 = .ok (.ireturn, 1) := by decide +kernel
theorem dX2_reversed_0 : decode cX2_reversed 0 = .ok (.iconst 0, 1) := by decide +kernel
theorem dX2_reversed_1 : decode cX2_reversed 1 = .ok (.istore_n 2, 1) := by decide +kernel
theorem dX2_reversed_2 : decode cX2_reversed 2 = .ok (.iconst 0, 1) := by decide +kernel
theorem dX2_reversed_3 : decode cX2_reversed 3 = .ok (.istore_n 3, 1) := by decide +kernel
theorem dX2_reversed_4 : decode cX2_reversed 4 = .ok (.iload_n 3, 1) := by decide +kernel
theorem dX2_reversed_5 : decode cX2_reversed 5 = .ok (.iload_n 1, 1) := by decide +kernel
theorem dX2_reversed_6 : decode cX2_reversed 6 = .ok (.if_icmp .ge 23, 3) := by decide +kernel
theorem dX2_reversed_9 : decode cX2_reversed 9 = .ok (.iload_n 2, 1) := by decide +kernel
theorem dX2_reversed_10 : decode cX2_reversed 10 = .ok (.iload_n 0, 1) := by decide +kernel
theorem dX2_reversed_11 : decode cX2_reversed 11 = .ok (.iload_n 3, 1) := by decide +kernel
theorem dX2_reversed_12 : decode cX2_reversed 12 = .ok (.iushr, 1) := by decide +kernel
theorem dX2_reversed_13 : decode cX2_reversed 13 = .ok (.iconst 1, 1) := by decide +kernel
theorem dX2_reversed_14 : decode cX2_reversed 14 = .ok (.iand, 1) := by decide +kernel
theorem dX2_reversed_15 : decode cX2_reversed 15 = .ok (.iload_n 1, 1) := by decide +kernel
theorem dX2_reversed_16 : decode cX2_reversed 16 = .ok (.iconst 1, 1) := by decide +kernel
theorem dX2_reversed_17 : decode cX2_reversed 17 = .ok (.isub, 1) := by decide +kernel
theorem dX2_reversed_18 : decode cX2_reversed 18 = .ok (.iload_n 3, 1) := by decide +kernel
theorem dX2_reversed_19 : decode cX2_reversed 19 = .ok (.isub, 1) := by decide +kernel
theorem dX2_reversed_20 : decode cX2_reversed 20 = .ok (.ishl, 1) := by decide +kernel
theorem dX2_reversed_21 : decode cX2_reversed 21 = .ok (.ior, 1) := by decide +kernel
theorem dX2_reversed_22 : decode cX2_reversed 22 = .ok (.istore_n 2, 1) := by decide +kernel
theorem dX2_reversed_23 : decode cX2_reversed 23 = .ok (.iinc 3 1, 3) := by decide +kernel
theorem dX2_reversed_26 : decode cX2_reversed 26 = .ok (.goto (-22), 3) := by decide +kernel
theorem dX2_reversed_29 : decode cX2_reversed 29 = .ok (.iload_n 2, 1) := by decide +kernel
theorem dX2_reversed_30 : decode cX2_reversed 30 = .ok (.ireturn, 1) := by decide +kernel
set_option maxRecDepth 20000 in
theorem ggX2_registerOf_X2_reversed : GoodIn wsX2_registerOf wsX2_reversed := goodIn_r _ [7] (by decide +kernel) (by decide +kernel)
set_option maxRecDepth 20000 in
theorem gX2_registerOf_X2_reversed : GoodIn wsX2_registerOf (va_wsS RX2 58 yX2_reversed wsX2_reversed) := goodIn_app (goodIn_of _ (by decide +kernel)) ggX2_registerOf_X2_reversed
theorem dX2_registerOf_0 : decode cX2_registerOf 0 = .ok (.iload_n 2, 1) := by decide +kernel
theorem dX2_registerOf_1 : decode cX2_registerOf 1 = .ok (.aload_n 0, 1) := by decide +kernel
theorem dX2_registerOf_2 : decode cX2_registerOf 2 = .ok (.getfield 19, 3) := by decide +kernel
theorem dX2_registerOf_5 : decode cX2_registerOf 5 = .ok (.iload_n 1, 1) := by decide +kernel
theorem dX2_registerOf_6 : decode cX2_registerOf 6 = .ok (.iaload, 1) := by decide +kernel
theorem dX2_registerOf_7 : decode cX2_registerOf 7 = .ok (.ixor, 1) := by decide +kernel
theorem dX2_registerOf_8 : decode cX2_registerOf 8 = .ok (.istore_n 3, 1) := by decide +kernel
theorem dX2_registerOf_9 : decode cX2_registerOf 9 = .ok (.aload_n 0, 1) := by decide +kernel
theorem dX2_registerOf_10 : decode cX2_registerOf 10 = .ok (.getfield 26, 3) := by decide +kernel
theorem dX2_registerOf_13 : decode cX2_registerOf 13 = .ok (.iload_n 1, 1) := by decide +kernel
theorem dX2_registerOf_14 : decode cX2_registerOf 14 = .ok (.baload, 1) := by decide +kernel
theorem dX2_registerOf_15 : decode cX2_registerOf 15 = .ok (.ifCond .eq 16, 3) := by decide +kernel
theorem dX2_registerOf_18 : decode cX2_registerOf 18 = .ok (.iload_n 3, 1) := by decide +kernel
theorem dX2_registerOf_19 : decode cX2_registerOf 19 = .ok (.aload_n 0, 1) := by decide +kernel
theorem dX2_registerOf_20 : decode cX2_registerOf 20 = .ok (.getfield 7, 3) := by decide +kernel
theorem dX2_registerOf_23 : decode cX2_registerOf 23 = .ok (.iload_n 1, 1) := by decide +kernel
theorem dX2_registerOf_24 : decode cX2_registerOf 24 = .ok (.iaload, 1) := by decide +kernel
theorem dX2_registerOf_25 : decode cX2_registerOf 25 = .ok (.invokestatic 58, 3) := by decide +kernel
theorem dX2_registerOf_28 : decode cX2_registerOf 28 = .ok (.goto 4, 3) := by decide +kernel
theorem dX2_registerOf_31 : decode cX2_registerOf 31 = .ok (.iload_n 3, 1) := by decide +kernel
theorem dX2_registerOf_32 : decode cX2_registerOf 32 = .ok (.ireturn, 1) := by decide +kernel
set_option maxRecDepth 20000 in
theorem ggX2_sumOf_X2_reversed : GoodIn wsX2_sumOf wsX2_reversed := goodIn_r _ [7] (by decide +kernel) (by decide +kernel)
set_option maxRecDepth 20000 in
theorem gX2_sumOf_X2_reversed : GoodIn wsX2_sumOf (va_wsS RX2 58 yX2_reversed wsX2_reversed) := goodIn_app (goodIn_of _ (by decide +kernel)) ggX2_sumOf_X2_reversed
theorem dX2_sumOf_0 : decode cX2_sumOf 0 = .ok (.aload_n 0, 1) := by decide +kernel
theorem dX2_sumOf_1 : decode cX2_sumOf 1 = .ok (.getfield 26, 3) := by decide +kernel
theorem dX2_sumOf_4 : decode cX2_sumOf 4 = .ok (.iload_n 1, 1) := by decide +kernel
theorem dX2_sumOf_5 : decode cX2_sumOf 5 = .ok (.baload, 1) := by decide +kernel
theorem dX2_sumOf_6 : decode cX2_sumOf 6 = .ok (.ifCond .eq 16, 3) := by decide +kernel
theorem dX2_sumOf_9 : decode cX2_sumOf 9 = .ok (.iload_n 2, 1) := by decide +kernel
theorem dX2_sumOf_10 : decode cX2_sumOf 10 = .ok (.aload_n 0, 1) := by decide +kernel
theorem dX2_sumOf_11 : decode cX2_sumOf 11 = .ok (.getfield 7, 3) := by decide +kernel
theorem dX2_sumOf_14 : decode cX2_sumOf 14 = .ok (.iload_n 1, 1) := by decide +kernel
theorem dX2_sumOf_15 : decode cX2_sumOf 15 = .ok (.iaload, 1) := by decide +kernel
theorem dX2_sumOf_16 : decode cX2_sumOf 16 = .ok (.invokestatic 58, 3) := by decide +kernel
theorem dX2_sumOf_19 : decode cX2_sumOf 19 = .ok (.goto 4, 3) := by decide +kernel
theorem dX2_sumOf_22 : decode cX2_sumOf 22 = .ok (.iload_n 2, 1) := by decide +kernel
theorem dX2_sumOf_23 : decode cX2_sumOf 23 = .ok (.istore_n 3, 1) := by decide +kernel
theorem dX2_sumOf_24 : decode cX2_sumOf 24 = .ok (.iload_n 3, 1) := by decide +kernel
theorem dX2_sumOf_25 : decode cX2_sumOf 25 = .ok (.aload_n 0, 1) := by decide +kernel
theorem dX2_sumOf_26 : decode cX2_sumOf 26 = .ok (.getfield 19, 3) := by decide +kernel
theorem dX2_sumOf_29 : decode cX2_sumOf 29 = .ok (.iload_n 1, 1) := by decide +kernel
theorem dX2_sumOf_30 : decode cX2_sumOf 30 = .ok (.iaload, 1) := by decide +kernel
theorem dX2_sumOf_31 : decode cX2_sumOf 31 = .ok (.ixor, 1) := by decide +kernel
theorem dX2_sumOf_32 : decode cX2_sumOf 32 = .ok (.ireturn, 1) := by decide +kernel
set_option maxRecDepth 20000 in
theorem ggX2_takes_X2_timesX : GoodIn wsX2_takes wsX2_timesX := goodIn_r _ [7, 2, 8, 9, 10, 11, 12, 13, 14, 15, 16, 17, 18] (by decide +kernel) (by decide +kernel)
set_option maxRecDepth 20000 in
theorem gX2_takes_X2_timesX : GoodIn wsX2_takes (wsV RX2 50 RX2 yX2_timesX wsX2_timesX) := goodIn_app (goodIn_of _ (by decide +kernel)) ggX2_takes_X2_timesX
theorem dX2_takes_0 : decode cX2_takes 0 = .ok (.iload_n 2, 1) := by decide +kernel
theorem dX2_takes_1 : decode cX2_takes 1 = .ok (.istore 4, 2) := by decide +kernel
theorem dX2_takes_3 : decode cX2_takes 3 = .ok (.iconst 0, 1) := by decide +kernel
theorem dX2_takes_4 : decode cX2_takes 4 = .ok (.istore 5, 2) := by decide +kernel
theorem dX2_takes_6 : decode cX2_takes 6 = .ok (.iload 5, 2) := by decide +kernel
theorem dX2_takes_8 : decode cX2_takes 8 = .ok (.bipush 8, 2) := by decide +kernel
theorem dX2_takes_10 : decode cX2_takes 10 = .ok (.if_icmp .ge 55, 3) := by decide +kernel
theorem dX2_takes_13 : decode cX2_takes 13 = .ok (.iload_n 3, 1) := by decide +kernel
theorem dX2_takes_14 : decode cX2_takes 14 = .ok (.aload_n 0, 1) := by decide +kernel
theorem dX2_takes_15 : decode cX2_takes 15 = .ok (.getfield 22, 3) := by decide +kernel
theorem dX2_takes_18 : decode cX2_takes 18 = .ok (.iload_n 1, 1) := by decide +kernel
theorem dX2_takes_19 : decode cX2_takes 19 = .ok (.baload, 1) := by decide +kernel
theorem dX2_takes_20 : decode cX2_takes 20 = .ok (.ifCond .eq 8, 3) := by decide +kernel
theorem dX2_takes_23 : decode cX2_takes 23 = .ok (.iload 5, 2) := by decide +kernel
theorem dX2_takes_25 : decode cX2_takes 25 = .ok (.goto 8, 3) := by decide +kernel
theorem dX2_takes_28 : decode cX2_takes 28 = .ok (.bipush 7, 2) := by decide +kernel
theorem dX2_takes_30 : decode cX2_takes 30 = .ok (.iload 5, 2) := by decide +kernel
theorem dX2_takes_32 : decode cX2_takes 32 = .ok (.isub, 1) := by decide +kernel
theorem dX2_takes_33 : decode cX2_takes 33 = .ok (.ishr, 1) := by decide +kernel
theorem dX2_takes_34 : decode cX2_takes 34 = .ok (.iconst 1, 1) := by decide +kernel
theorem dX2_takes_35 : decode cX2_takes 35 = .ok (.iand, 1) := by decide +kernel
theorem dX2_takes_36 : decode cX2_takes 36 = .ok (.istore 6, 2) := by decide +kernel
theorem dX2_takes_38 : decode cX2_takes 38 = .ok (.aload_n 0, 1) := by decide +kernel
theorem dX2_takes_39 : decode cX2_takes 39 = .ok (.iload_n 1, 1) := by decide +kernel
theorem dX2_takes_40 : decode cX2_takes 40 = .ok (.iload 4, 2) := by decide +kernel
theorem dX2_takes_42 : decode cX2_takes 42 = .ok (.iload 6, 2) := by decide +kernel
theorem dX2_takes_44 : decode cX2_takes 44 = .ok (.aload_n 0, 1) := by decide +kernel
theorem dX2_takes_45 : decode cX2_takes 45 = .ok (.getfield 7, 3) := by decide +kernel
theorem dX2_takes_48 : decode cX2_takes 48 = .ok (.iload_n 1, 1) := by decide +kernel
theorem dX2_takes_49 : decode cX2_takes 49 = .ok (.iaload, 1) := by decide +kernel
theorem dX2_takes_50 : decode cX2_takes 50 = .ok (.iconst 1, 1) := by decide +kernel
theorem dX2_takes_51 : decode cX2_takes 51 = .ok (.isub, 1) := by decide +kernel
theorem dX2_takes_52 : decode cX2_takes 52 = .ok (.ishl, 1) := by decide +kernel
theorem dX2_takes_53 : decode cX2_takes 53 = .ok (.ixor, 1) := by decide +kernel
theorem dX2_takes_54 : decode cX2_takes 54 = .ok (.invokevirtual 50, 3) := by decide +kernel
theorem dX2_takes_57 : decode cX2_takes 57 = .ok (.istore 4, 2) := by decide +kernel
theorem dX2_takes_59 : decode cX2_takes 59 = .ok (.iinc 5 1, 3) := by decide +kernel
theorem dX2_takes_62 : decode cX2_takes 62 = .ok (.goto (-56), 3) := by decide +kernel
theorem dX2_takes_65 : decode cX2_takes 65 = .ok (.iload 4, 2) := by decide +kernel
theorem dX2_takes_67 : decode cX2_takes 67 = .ok (.ireturn, 1) := by decide +kernel
set_option maxRecDepth 20000 in
theorem ggX2_define_X2_in : GoodIn wsX2_define wsX2_in := goodIn_r _ [11] (by decide +kernel) (by decide +kernel)
set_option maxRecDepth 20000 in
theorem gX2_define_X2_in : GoodIn wsX2_define (va_wsS RX2 42 yX2_in wsX2_in) := goodIn_app (goodIn_of _ (by decide +kernel)) ggX2_define_X2_in
set_option maxRecDepth 20000 in
theorem ggX2_define_X2_hasBits : GoodIn wsX2_define wsX2_hasBits := goodIn_r _ [14] (by decide +kernel) (by decide +kernel)
set_option maxRecDepth 20000 in
theorem gX2_define_X2_hasBits : GoodIn wsX2_define (va_wsS RX2 46 yX2_hasBits wsX2_hasBits) := goodIn_app (goodIn_of _ (by decide +kernel)) ggX2_define_X2_hasBits
set_option maxRecDepth 20000 in
theorem ggX2_define_X2_asked_ : GoodIn wsX2_define wsX2_asked_ := goodIn_r _ [18, 19, 20, 21, 22, 23, 24, 25, 26, 27, 28, 29] (by decide +kernel) (by decide +kernel)
set_option maxRecDepth 20000 in
theorem gX2_define_X2_asked_ : GoodIn wsX2_define (wsV RX2 61 RX2 yX2_asked_ wsX2_asked_) := goodIn_app (goodIn_of _ (by decide +kernel)) ggX2_define_X2_asked_
theorem dX2_define_0 : decode cX2_define 0 = .ok (.iload_n 1, 1) := by decide +kernel
theorem dX2_define_1 : decode cX2_define 1 = .ok (.iconst 1, 1) := by decide +kernel
theorem dX2_define_2 : decode cX2_define 2 = .ok (.bipush 32, 2) := by decide +kernel
theorem dX2_define_4 : decode cX2_define 4 = .ok (.invokestatic 42, 3) := by decide +kernel
theorem dX2_define_7 : decode cX2_define 7 = .ok (.ifCond .eq 32, 3) := by decide +kernel
theorem dX2_define_10 : decode cX2_define 10 = .ok (.iload_n 2, 1) := by decide +kernel
theorem dX2_define_11 : decode cX2_define 11 = .ok (.iload_n 1, 1) := by decide +kernel
theorem dX2_define_12 : decode cX2_define 12 = .ok (.invokestatic 46, 3) := by decide +kernel
theorem dX2_define_15 : decode cX2_define 15 = .ok (.ifCond .eq 24, 3) := by decide +kernel
theorem dX2_define_18 : decode cX2_define 18 = .ok (.iload_n 3, 1) := by decide +kernel
theorem dX2_define_19 : decode cX2_define 19 = .ok (.iload_n 1, 1) := by decide +kernel
theorem dX2_define_20 : decode cX2_define 20 = .ok (.invokestatic 46, 3) := by decide +kernel
theorem dX2_define_23 : decode cX2_define 23 = .ok (.ifCond .eq 16, 3) := by decide +kernel
theorem dX2_define_26 : decode cX2_define 26 = .ok (.iload 6, 2) := by decide +kernel
theorem dX2_define_28 : decode cX2_define 28 = .ok (.iload_n 1, 1) := by decide +kernel
theorem dX2_define_29 : decode cX2_define 29 = .ok (.invokestatic 46, 3) := by decide +kernel
theorem dX2_define_32 : decode cX2_define 32 = .ok (.ifCond .eq 7, 3) := by decide +kernel
theorem dX2_define_35 : decode cX2_define 35 = .ok (.iconst 1, 1) := by decide +kernel
theorem dX2_define_36 : decode cX2_define 36 = .ok (.goto 4, 3) := by decide +kernel
theorem dX2_define_39 : decode cX2_define 39 = .ok (.iconst 0, 1) := by decide +kernel
theorem dX2_define_40 : decode cX2_define 40 = .ok (.istore 7, 2) := by decide +kernel
theorem dX2_define_42 : decode cX2_define 42 = .ok (.aload_n 0, 1) := by decide +kernel
theorem dX2_define_43 : decode cX2_define 43 = .ok (.iload 7, 2) := by decide +kernel
theorem dX2_define_45 : decode cX2_define 45 = .ok (.aload_n 0, 1) := by decide +kernel
theorem dX2_define_46 : decode cX2_define 46 = .ok (.getfield 39, 3) := by decide +kernel
theorem dX2_define_49 : decode cX2_define 49 = .ok (.bipush 6, 2) := by decide +kernel
theorem dX2_define_51 : decode cX2_define 51 = .ok (.if_icmp .ge 7, 3) := by decide +kernel
theorem dX2_define_54 : decode cX2_define 54 = .ok (.iconst 1, 1) := by decide +kernel
theorem dX2_define_55 : decode cX2_define 55 = .ok (.goto 4, 3) := by decide +kernel
theorem dX2_define_58 : decode cX2_define 58 = .ok (.iconst 0, 1) := by decide +kernel
theorem dX2_define_59 : decode cX2_define 59 = .ok (.invokevirtual 61, 3) := by decide +kernel
theorem dX2_define_62 : decode cX2_define 62 = .ok (.ifCond .ne 5, 3) := by decide +kernel
theorem dX2_define_65 : decode cX2_define 65 = .ok (.iconst 0, 1) := by decide +kernel
theorem dX2_define_66 : decode cX2_define 66 = .ok (.ireturn, 1) := by decide +kernel
theorem dX2_define_67 : decode cX2_define 67 = .ok (.aload_n 0, 1) := by decide +kernel
theorem dX2_define_68 : decode cX2_define 68 = .ok (.getfield 7, 3) := by decide +kernel
theorem dX2_define_71 : decode cX2_define 71 = .ok (.aload_n 0, 1) := by decide +kernel
theorem dX2_define_72 : decode cX2_define 72 = .ok (.getfield 39, 3) := by decide +kernel
theorem dX2_define_75 : decode cX2_define 75 = .ok (.iload_n 1, 1) := by decide +kernel
theorem dX2_define_76 : decode cX2_define 76 = .ok (.iastore, 1) := by decide +kernel
theorem dX2_define_77 : decode cX2_define 77 = .ok (.aload_n 0, 1) := by decide +kernel
theorem dX2_define_78 : decode cX2_define 78 = .ok (.getfield 13, 3) := by decide +kernel
theorem dX2_define_81 : decode cX2_define 81 = .ok (.aload_n 0, 1) := by decide +kernel
theorem dX2_define_82 : decode cX2_define 82 = .ok (.getfield 39, 3) := by decide +kernel
theorem dX2_define_85 : decode cX2_define 85 = .ok (.iload_n 2, 1) := by decide +kernel
theorem dX2_define_86 : decode cX2_define 86 = .ok (.iastore, 1) := by decide +kernel
theorem dX2_define_87 : decode cX2_define 87 = .ok (.aload_n 0, 1) := by decide +kernel
theorem dX2_define_88 : decode cX2_define 88 = .ok (.getfield 16, 3) := by decide +kernel
theorem dX2_define_91 : decode cX2_define 91 = .ok (.aload_n 0, 1) := by decide +kernel
theorem dX2_define_92 : decode cX2_define 92 = .ok (.getfield 39, 3) := by decide +kernel
theorem dX2_define_95 : decode cX2_define 95 = .ok (.iload_n 3, 1) := by decide +kernel
theorem dX2_define_96 : decode cX2_define 96 = .ok (.iastore, 1) := by decide +kernel
theorem dX2_define_97 : decode cX2_define 97 = .ok (.aload_n 0, 1) := by decide +kernel
theorem dX2_define_98 : decode cX2_define 98 = .ok (.getfield 19, 3) := by decide +kernel
theorem dX2_define_101 : decode cX2_define 101 = .ok (.aload_n 0, 1) := by decide +kernel
theorem dX2_define_102 : decode cX2_define 102 = .ok (.getfield 39, 3) := by decide +kernel
theorem dX2_define_105 : decode cX2_define 105 = .ok (.iload 6, 2) := by decide +kernel
theorem dX2_define_107 : decode cX2_define 107 = .ok (.iastore, 1) := by decide +kernel
theorem dX2_define_108 : decode cX2_define 108 = .ok (.aload_n 0, 1) := by decide +kernel
theorem dX2_define_109 : decode cX2_define 109 = .ok (.getfield 22, 3) := by decide +kernel
theorem dX2_define_112 : decode cX2_define 112 = .ok (.aload_n 0, 1) := by decide +kernel
theorem dX2_define_113 : decode cX2_define 113 = .ok (.getfield 39, 3) := by decide +kernel
theorem dX2_define_116 : decode cX2_define 116 = .ok (.iload 4, 2) := by decide +kernel
theorem dX2_define_118 : decode cX2_define 118 = .ok (.bastore, 1) := by decide +kernel
theorem dX2_define_119 : decode cX2_define 119 = .ok (.aload_n 0, 1) := by decide +kernel
theorem dX2_define_120 : decode cX2_define 120 = .ok (.getfield 26, 3) := by decide +kernel
theorem dX2_define_123 : decode cX2_define 123 = .ok (.aload_n 0, 1) := by decide +kernel
theorem dX2_define_124 : decode cX2_define 124 = .ok (.getfield 39, 3) := by decide +kernel
theorem dX2_define_127 : decode cX2_define 127 = .ok (.iload 5, 2) := by decide +kernel
theorem dX2_define_129 : decode cX2_define 129 = .ok (.bastore, 1) := by decide +kernel
theorem dX2_define_130 : decode cX2_define 130 = .ok (.aload_n 0, 1) := by decide +kernel
theorem dX2_define_131 : decode cX2_define 131 = .ok (.dup, 1) := by decide +kernel
theorem dX2_define_132 : decode cX2_define 132 = .ok (.getfield 39, 3) := by decide +kernel
theorem dX2_define_135 : decode cX2_define 135 = .ok (.iconst 1, 1) := by decide +kernel
theorem dX2_define_136 : decode cX2_define 136 = .ok (.iadd, 1) := by decide +kernel
theorem dX2_define_137 : decode cX2_define 137 = .ok (.putfield 39, 3) := by decide +kernel
theorem dX2_define_140 : decode cX2_define 140 = .ok (.aload_n 0, 1) := by decide +kernel
theorem dX2_define_141 : decode cX2_define 141 = .ok (.getfield 39, 3) := by decide +kernel
theorem dX2_define_144 : decode cX2_define 144 = .ok (.iconst 1, 1) := by decide +kernel
theorem dX2_define_145 : decode cX2_define 145 = .ok (.isub, 1) := by decide +kernel
theorem dX2_define_146 : decode cX2_define 146 = .ok (.ireturn, 1) := by decide +kernel
theorem dX2_models_0 : decode cX2_models 0 = .ok (.aload_n 0, 1) := by decide +kernel
theorem dX2_models_1 : decode cX2_models 1 = .ok (.iconst 0, 1) := by decide +kernel
theorem dX2_models_2 : decode cX2_models 2 = .ok (.putfield 35, 3) := by decide +kernel
theorem dX2_models_5 : decode cX2_models 5 = .ok (.aload_n 0, 1) := by decide +kernel
theorem dX2_models_6 : decode cX2_models 6 = .ok (.getfield 39, 3) := by decide +kernel
theorem dX2_models_9 : decode cX2_models 9 = .ok (.ireturn, 1) := by decide +kernel
set_option maxRecDepth 20000 in
theorem ggX2_check_X2_isModel : GoodIn wsX2_check wsX2_isModel := goodIn_r _ [6, 7, 8, 9, 5, 10, 36, 37, 38, 39, 40, 41, 42, 43, 44, 45] (by decide +kernel) (by decide +kernel)
set_option maxRecDepth 20000 in
theorem gX2_check_X2_isModel : GoodIn wsX2_check (wsV RX2 65 RX2 yX2_isModel wsX2_isModel) := goodIn_app (goodIn_of _ (by decide +kernel)) ggX2_check_X2_isModel
set_option maxRecDepth 20000 in
theorem ggX2_check_X2_asked : GoodIn wsX2_check wsX2_asked := goodIn_r _ [14, 15, 36, 37, 38, 39, 40, 41, 42, 43, 44, 45] (by decide +kernel) (by decide +kernel)
set_option maxRecDepth 20000 in
theorem gX2_check_X2_asked : GoodIn wsX2_check (wsV RX2 69 RX2 yX2_asked wsX2_asked) := goodIn_app (goodIn_of _ (by decide +kernel)) ggX2_check_X2_asked
set_option maxRecDepth 20000 in
theorem ggX2_check_X2_takes : GoodIn wsX2_check wsX2_takes := goodIn_r _ [19, 20, 21, 22, 23, 24, 5, 25, 26, 36, 37, 38, 39, 40, 41, 42, 43, 44, 45] (by decide +kernel) (by decide +kernel)
set_option maxRecDepth 20000 in
theorem gX2_check_X2_takes : GoodIn wsX2_check (wsV RX2 72 RX2 yX2_takes wsX2_takes) := goodIn_app (goodIn_of _ (by decide +kernel)) ggX2_check_X2_takes
set_option maxRecDepth 20000 in
theorem ggX2_check_X2_sumOf : GoodIn wsX2_check wsX2_sumOf := goodIn_r _ [30, 31, 21, 32, 33, 34, 5, 35, 36, 37, 38, 39, 40, 41, 42, 43, 44, 45] (by decide +kernel) (by decide +kernel)
set_option maxRecDepth 20000 in
theorem gX2_check_X2_sumOf : GoodIn wsX2_check (wsV RX2 76 RX2 yX2_sumOf wsX2_sumOf) := goodIn_app (goodIn_of _ (by decide +kernel)) ggX2_check_X2_sumOf
theorem dX2_check_0 : decode cX2_check 0 = .ok (.aload_n 0, 1) := by decide +kernel
theorem dX2_check_1 : decode cX2_check 1 = .ok (.aload_n 0, 1) := by decide +kernel
theorem dX2_check_2 : decode cX2_check 2 = .ok (.iload_n 1, 1) := by decide +kernel
theorem dX2_check_3 : decode cX2_check 3 = .ok (.invokevirtual 65, 3) := by decide +kernel
theorem dX2_check_6 : decode cX2_check 6 = .ok (.invokevirtual 69, 3) := by decide +kernel
theorem dX2_check_9 : decode cX2_check 9 = .ok (.ifCond .ne 5, 3) := by decide +kernel
theorem dX2_check_12 : decode cX2_check 12 = .ok (.iconst 0, 1) := by decide +kernel
theorem dX2_check_13 : decode cX2_check 13 = .ok (.ireturn, 1) := by decide +kernel
theorem dX2_check_14 : decode cX2_check 14 = .ok (.aload_n 0, 1) := by decide +kernel
theorem dX2_check_15 : decode cX2_check 15 = .ok (.getfield 16, 3) := by decide +kernel
theorem dX2_check_18 : decode cX2_check 18 = .ok (.iload_n 1, 1) := by decide +kernel
theorem dX2_check_19 : decode cX2_check 19 = .ok (.iaload, 1) := by decide +kernel
theorem dX2_check_20 : decode cX2_check 20 = .ok (.istore_n 2, 1) := by decide +kernel
theorem dX2_check_21 : decode cX2_check 21 = .ok (.bipush 49, 2) := by decide +kernel
theorem dX2_check_23 : decode cX2_check 23 = .ok (.istore_n 3, 1) := by decide +kernel
theorem dX2_check_24 : decode cX2_check 24 = .ok (.iload_n 3, 1) := by decide +kernel
theorem dX2_check_25 : decode cX2_check 25 = .ok (.bipush 57, 2) := by decide +kernel
theorem dX2_check_27 : decode cX2_check 27 = .ok (.if_icmp .gt 17, 3) := by decide +kernel
theorem dX2_check_30 : decode cX2_check 30 = .ok (.aload_n 0, 1) := by decide +kernel
theorem dX2_check_31 : decode cX2_check 31 = .ok (.iload_n 1, 1) := by decide +kernel
theorem dX2_check_32 : decode cX2_check 32 = .ok (.iload_n 2, 1) := by decide +kernel
theorem dX2_check_33 : decode cX2_check 33 = .ok (.iload_n 3, 1) := by decide +kernel
theorem dX2_check_34 : decode cX2_check 34 = .ok (.invokevirtual 72, 3) := by decide +kernel
theorem dX2_check_37 : decode cX2_check 37 = .ok (.istore_n 2, 1) := by decide +kernel
theorem dX2_check_38 : decode cX2_check 38 = .ok (.iinc 3 1, 3) := by decide +kernel
theorem dX2_check_41 : decode cX2_check 41 = .ok (.goto (-17), 3) := by decide +kernel
theorem dX2_check_44 : decode cX2_check 44 = .ok (.aload_n 0, 1) := by decide +kernel
theorem dX2_check_45 : decode cX2_check 45 = .ok (.iload_n 1, 1) := by decide +kernel
theorem dX2_check_46 : decode cX2_check 46 = .ok (.iload_n 2, 1) := by decide +kernel
theorem dX2_check_47 : decode cX2_check 47 = .ok (.invokevirtual 76, 3) := by decide +kernel
theorem dX2_check_50 : decode cX2_check 50 = .ok (.ireturn, 1) := by decide +kernel
set_option maxRecDepth 20000 in
theorem ggX2_multiply_X2_isModel : GoodIn wsX2_multiply wsX2_isModel := goodIn_r _ [6, 7, 8, 9, 5, 10, 32, 33, 34, 35, 36, 37, 38, 39, 40, 41] (by decide +kernel) (by decide +kernel)
set_option maxRecDepth 20000 in
theorem gX2_multiply_X2_isModel : GoodIn wsX2_multiply (wsV RX2 65 RX2 yX2_isModel wsX2_isModel) := goodIn_app (goodIn_of _ (by decide +kernel)) ggX2_multiply_X2_isModel
set_option maxRecDepth 20000 in
theorem ggX2_multiply_X2_isNumber : GoodIn wsX2_multiply wsX2_isNumber := goodIn_r _ [14, 1, 15, 16, 5, 17, 32, 33, 34, 35, 36, 37, 38, 39, 40, 41] (by decide +kernel) (by decide +kernel)
set_option maxRecDepth 20000 in
theorem gX2_multiply_X2_isNumber : GoodIn wsX2_multiply (wsV RX2 79 RX2 yX2_isNumber wsX2_isNumber) := goodIn_app (goodIn_of _ (by decide +kernel)) ggX2_multiply_X2_isNumber
set_option maxRecDepth 20000 in
theorem ggX2_multiply_X2_asked_ : GoodIn wsX2_multiply wsX2_asked_ := goodIn_r _ [21, 22, 32, 33, 34, 35, 36, 37, 38, 39, 40, 41] (by decide +kernel) (by decide +kernel)
set_option maxRecDepth 20000 in
theorem gX2_multiply_X2_asked_ : GoodIn wsX2_multiply (wsV RX2 61 RX2 yX2_asked_ wsX2_asked_) := goodIn_app (goodIn_of _ (by decide +kernel)) ggX2_multiply_X2_asked_
set_option maxRecDepth 20000 in
theorem ggX2_multiply_X2_times : GoodIn wsX2_multiply wsX2_times := goodIn_r _ [26, 27, 28, 29, 5, 30, 1, 31, 32, 33, 34, 35, 36, 37, 38, 39, 40, 41] (by decide +kernel) (by decide +kernel)
set_option maxRecDepth 20000 in
theorem gX2_multiply_X2_times : GoodIn wsX2_multiply (wsV RX2 54 RX2 yX2_times wsX2_times) := goodIn_app (goodIn_of _ (by decide +kernel)) ggX2_multiply_X2_times
theorem dX2_multiply_0 : decode cX2_multiply 0 = .ok (.aload_n 0, 1) := by decide +kernel
theorem dX2_multiply_1 : decode cX2_multiply 1 = .ok (.iload_n 1, 1) := by decide +kernel
theorem dX2_multiply_2 : decode cX2_multiply 2 = .ok (.invokevirtual 65, 3) := by decide +kernel
theorem dX2_multiply_5 : decode cX2_multiply 5 = .ok (.istore 4, 2) := by decide +kernel
theorem dX2_multiply_7 : decode cX2_multiply 7 = .ok (.aload_n 0, 1) := by decide +kernel
theorem dX2_multiply_8 : decode cX2_multiply 8 = .ok (.iload 4, 2) := by decide +kernel
theorem dX2_multiply_10 : decode cX2_multiply 10 = .ok (.iload 4, 2) := by decide +kernel
theorem dX2_multiply_12 : decode cX2_multiply 12 = .ok (.ifCond .eq 25, 3) := by decide +kernel
theorem dX2_multiply_15 : decode cX2_multiply 15 = .ok (.aload_n 0, 1) := by decide +kernel
theorem dX2_multiply_16 : decode cX2_multiply 16 = .ok (.iload_n 1, 1) := by decide +kernel
theorem dX2_multiply_17 : decode cX2_multiply 17 = .ok (.iload_n 2, 1) := by decide +kernel
theorem dX2_multiply_18 : decode cX2_multiply 18 = .ok (.invokevirtual 79, 3) := by decide +kernel
theorem dX2_multiply_21 : decode cX2_multiply 21 = .ok (.ifCond .eq 16, 3) := by decide +kernel
theorem dX2_multiply_24 : decode cX2_multiply 24 = .ok (.aload_n 0, 1) := by decide +kernel
theorem dX2_multiply_25 : decode cX2_multiply 25 = .ok (.iload_n 1, 1) := by decide +kernel
theorem dX2_multiply_26 : decode cX2_multiply 26 = .ok (.iload_n 3, 1) := by decide +kernel
theorem dX2_multiply_27 : decode cX2_multiply 27 = .ok (.invokevirtual 79, 3) := by decide +kernel
theorem dX2_multiply_30 : decode cX2_multiply 30 = .ok (.ifCond .eq 7, 3) := by decide +kernel
theorem dX2_multiply_33 : decode cX2_multiply 33 = .ok (.iconst 1, 1) := by decide +kernel
theorem dX2_multiply_34 : decode cX2_multiply 34 = .ok (.goto 4, 3) := by decide +kernel
theorem dX2_multiply_37 : decode cX2_multiply 37 = .ok (.iconst 0, 1) := by decide +kernel
theorem dX2_multiply_38 : decode cX2_multiply 38 = .ok (.invokevirtual 61, 3) := by decide +kernel
theorem dX2_multiply_41 : decode cX2_multiply 41 = .ok (.ifCond .eq 19, 3) := by decide +kernel
theorem dX2_multiply_44 : decode cX2_multiply 44 = .ok (.aload_n 0, 1) := by decide +kernel
theorem dX2_multiply_45 : decode cX2_multiply 45 = .ok (.iload_n 1, 1) := by decide +kernel
theorem dX2_multiply_46 : decode cX2_multiply 46 = .ok (.iload_n 2, 1) := by decide +kernel
theorem dX2_multiply_47 : decode cX2_multiply 47 = .ok (.iload_n 3, 1) := by decide +kernel
theorem dX2_multiply_48 : decode cX2_multiply 48 = .ok (.aload_n 0, 1) := by decide +kernel
theorem dX2_multiply_49 : decode cX2_multiply 49 = .ok (.getfield 7, 3) := by decide +kernel
theorem dX2_multiply_52 : decode cX2_multiply 52 = .ok (.iload_n 1, 1) := by decide +kernel
theorem dX2_multiply_53 : decode cX2_multiply 53 = .ok (.iaload, 1) := by decide +kernel
theorem dX2_multiply_54 : decode cX2_multiply 54 = .ok (.invokevirtual 54, 3) := by decide +kernel
theorem dX2_multiply_57 : decode cX2_multiply 57 = .ok (.goto 4, 3) := by decide +kernel
theorem dX2_multiply_60 : decode cX2_multiply 60 = .ok (.iconst 0, 1) := by decide +kernel
theorem dX2_multiply_61 : decode cX2_multiply 61 = .ok (.ireturn, 1) := by decide +kernel
set_option maxRecDepth 20000 in
theorem ggX2_power_X2_isModel : GoodIn wsX2_power wsX2_isModel := goodIn_r _ [5, 6, 7, 8, 4, 9, 29, 30, 31, 32, 33, 34, 35, 36, 37, 38] (by decide +kernel) (by decide +kernel)
set_option maxRecDepth 20000 in
theorem gX2_power_X2_isModel : GoodIn wsX2_power (wsV RX2 65 RX2 yX2_isModel wsX2_isModel) := goodIn_app (goodIn_of _ (by decide +kernel)) ggX2_power_X2_isModel
set_option maxRecDepth 20000 in
theorem ggX2_power_X2_asked_ : GoodIn wsX2_power wsX2_asked_ := goodIn_r _ [13, 14, 29, 30, 31, 32, 33, 34, 35, 36, 37, 38] (by decide +kernel) (by decide +kernel)
set_option maxRecDepth 20000 in
theorem gX2_power_X2_asked_ : GoodIn wsX2_power (wsV RX2 61 RX2 yX2_asked_ wsX2_asked_) := goodIn_app (goodIn_of _ (by decide +kernel)) ggX2_power_X2_asked_
set_option maxRecDepth 20000 in
theorem ggX2_power_X2_powerOf : GoodIn wsX2_power wsX2_powerOf := goodIn_r _ [18, 19, 20, 21, 22, 4, 23, 24, 25, 26, 27, 28, 29, 30, 31, 32, 33, 34, 35, 36, 37, 38] (by decide +kernel) (by decide +kernel)
set_option maxRecDepth 20000 in
theorem gX2_power_X2_powerOf : GoodIn wsX2_power (wsV RX2 82 RX2 yX2_powerOf wsX2_powerOf) := goodIn_app (goodIn_of _ (by decide +kernel)) ggX2_power_X2_powerOf
theorem dX2_power_0 : decode cX2_power 0 = .ok (.aload_n 0, 1) := by decide +kernel
theorem dX2_power_1 : decode cX2_power 1 = .ok (.aload_n 0, 1) := by decide +kernel
theorem dX2_power_2 : decode cX2_power 2 = .ok (.iload_n 1, 1) := by decide +kernel
theorem dX2_power_3 : decode cX2_power 3 = .ok (.invokevirtual 65, 3) := by decide +kernel
theorem dX2_power_6 : decode cX2_power 6 = .ok (.lload_n 2, 1) := by decide +kernel
theorem dX2_power_7 : decode cX2_power 7 = .ok (.lconst 0, 1) := by decide +kernel
theorem dX2_power_8 : decode cX2_power 8 = .ok (.lcmp, 1) := by decide +kernel
theorem dX2_power_9 : decode cX2_power 9 = .ok (.ifCond .lt 7, 3) := by decide +kernel
theorem dX2_power_12 : decode cX2_power 12 = .ok (.iconst 1, 1) := by decide +kernel
theorem dX2_power_13 : decode cX2_power 13 = .ok (.goto 4, 3) := by decide +kernel
theorem dX2_power_16 : decode cX2_power 16 = .ok (.iconst 0, 1) := by decide +kernel
theorem dX2_power_17 : decode cX2_power 17 = .ok (.invokevirtual 61, 3) := by decide +kernel
theorem dX2_power_20 : decode cX2_power 20 = .ok (.ifCond .eq 12, 3) := by decide +kernel
theorem dX2_power_23 : decode cX2_power 23 = .ok (.aload_n 0, 1) := by decide +kernel
theorem dX2_power_24 : decode cX2_power 24 = .ok (.iload_n 1, 1) := by decide +kernel
theorem dX2_power_25 : decode cX2_power 25 = .ok (.lload_n 2, 1) := by decide +kernel
theorem dX2_power_26 : decode cX2_power 26 = .ok (.invokevirtual 82, 3) := by decide +kernel
theorem dX2_power_29 : decode cX2_power 29 = .ok (.goto 4, 3) := by decide +kernel
theorem dX2_power_32 : decode cX2_power 32 = .ok (.iconst 0, 1) := by decide +kernel
theorem dX2_power_33 : decode cX2_power 33 = .ok (.ireturn, 1) := by decide +kernel
set_option maxRecDepth 20000 in
theorem ggX2_period_X2_isModel : GoodIn wsX2_period wsX2_isModel := goodIn_r _ [6, 7, 8, 9, 5, 10, 22, 23, 24, 25, 26, 27, 28, 29, 30, 31] (by decide +kernel) (by decide +kernel)
set_option maxRecDepth 20000 in
theorem gX2_period_X2_isModel : GoodIn wsX2_period (wsV RX2 65 RX2 yX2_isModel wsX2_isModel) := goodIn_app (goodIn_of _ (by decide +kernel)) ggX2_period_X2_isModel
set_option maxRecDepth 20000 in
theorem ggX2_period_X2_in : GoodIn wsX2_period wsX2_in := goodIn_r _ [10] (by decide +kernel) (by decide +kernel)
set_option maxRecDepth 20000 in
theorem gX2_period_X2_in : GoodIn wsX2_period (va_wsS RX2 42 yX2_in wsX2_in) := goodIn_app (goodIn_of _ (by decide +kernel)) ggX2_period_X2_in
set_option maxRecDepth 20000 in
theorem ggX2_period_X2_asked_ : GoodIn wsX2_period wsX2_asked_ := goodIn_r _ [14, 15, 22, 23, 24, 25, 26, 27, 28, 29, 30, 31] (by decide +kernel) (by decide +kernel)
set_option maxRecDepth 20000 in
theorem gX2_period_X2_asked_ : GoodIn wsX2_period (wsV RX2 61 RX2 yX2_asked_ wsX2_asked_) := goodIn_app (goodIn_of _ (by decide +kernel)) ggX2_period_X2_asked_
set_option maxRecDepth 20000 in
theorem ggX2_period_X2_timesX : GoodIn wsX2_period wsX2_timesX := goodIn_r _ [19, 20, 21, 22, 23, 24, 25, 26, 27, 28, 29, 30, 31] (by decide +kernel) (by decide +kernel)
set_option maxRecDepth 20000 in
theorem gX2_period_X2_timesX : GoodIn wsX2_period (wsV RX2 50 RX2 yX2_timesX wsX2_timesX) := goodIn_app (goodIn_of _ (by decide +kernel)) ggX2_period_X2_timesX
theorem dX2_period_0 : decode cX2_period 0 = .ok (.aload_n 0, 1) := by decide +kernel
theorem dX2_period_1 : decode cX2_period 1 = .ok (.aload_n 0, 1) := by decide +kernel
theorem dX2_period_2 : decode cX2_period 2 = .ok (.iload_n 1, 1) := by decide +kernel
theorem dX2_period_3 : decode cX2_period 3 = .ok (.invokevirtual 65, 3) := by decide +kernel
theorem dX2_period_6 : decode cX2_period 6 = .ok (.iload_n 2, 1) := by decide +kernel
theorem dX2_period_7 : decode cX2_period 7 = .ok (.iconst 1, 1) := by decide +kernel
theorem dX2_period_8 : decode cX2_period 8 = .ok (.ldc 86, 2) := by decide +kernel
theorem dX2_period_10 : decode cX2_period 10 = .ok (.invokestatic 42, 3) := by decide +kernel
theorem dX2_period_13 : decode cX2_period 13 = .ok (.invokevirtual 61, 3) := by decide +kernel
theorem dX2_period_16 : decode cX2_period 16 = .ok (.ifCond .ne 5, 3) := by decide +kernel
theorem dX2_period_19 : decode cX2_period 19 = .ok (.iconst 0, 1) := by decide +kernel
theorem dX2_period_20 : decode cX2_period 20 = .ok (.ireturn, 1) := by decide +kernel
theorem dX2_period_21 : decode cX2_period 21 = .ok (.iconst 1, 1) := by decide +kernel
theorem dX2_period_22 : decode cX2_period 22 = .ok (.istore_n 3, 1) := by decide +kernel
theorem dX2_period_23 : decode cX2_period 23 = .ok (.iconst 1, 1) := by decide +kernel
theorem dX2_period_24 : decode cX2_period 24 = .ok (.istore 4, 2) := by decide +kernel
theorem dX2_period_26 : decode cX2_period 26 = .ok (.iload 4, 2) := by decide +kernel
