theorem dX0_init_0 : decode cX0_init 0 = .ok (.aload_n 0, 1) := by decide +kernel
theorem dX0_init_1 : decode cX0_init 1 = .ok (.invokespecial 3, 3) := by decide +kernel
theorem dX0_init_4 : decode cX0_init 4 = .ok (.aload_n 0, 1) := by decide +kernel
theorem dX0_init_5 : decode cX0_init 5 = .ok (.iload_n 1, 1) := by decide +kernel
theorem dX0_init_6 : decode cX0_init 6 = .ok (.putfield 9, 3) := by decide +kernel
theorem dX0_init_9 : decode cX0_init 9 = .ok (.aload_n 0, 1) := by decide +kernel
theorem dX0_init_10 : decode cX0_init 10 = .ok (.iload_n 2, 1) := by decide +kernel
theorem dX0_init_11 : decode cX0_init 11 = .ok (.putfield 15, 3) := by decide +kernel
theorem dX0_init_14 : decode cX0_init 14 = .ok (.aload_n 0, 1) := by decide +kernel
theorem dX0_init_15 : decode cX0_init 15 = .ok (.iload_n 3, 1) := by decide +kernel
theorem dX0_init_16 : decode cX0_init 16 = .ok (.putfield 18, 3) := by decide +kernel
theorem dX0_init_19 : decode cX0_init 19 = .ok (.aload_n 0, 1) := by decide +kernel
theorem dX0_init_20 : decode cX0_init 20 = .ok (.iload 4, 2) := by decide +kernel
theorem dX0_init_22 : decode cX0_init 22 = .ok (.putfield 21, 3) := by decide +kernel
theorem dX0_init_25 : decode cX0_init 25 = .ok (.aload_n 0, 1) := by decide +kernel
theorem dX0_init_26 : decode cX0_init 26 = .ok (.iload 5, 2) := by decide +kernel
theorem dX0_init_28 : decode cX0_init 28 = .ok (.putfield 25, 3) := by decide +kernel
theorem dX0_init_31 : decode cX0_init 31 = .ok (.aload_n 0, 1) := by decide +kernel
theorem dX0_init_32 : decode cX0_init 32 = .ok (.iload 6, 2) := by decide +kernel
theorem dX0_init_34 : decode cX0_init 34 = .ok (.putfield 28, 3) := by decide +kernel
theorem dX0_init_37 : decode cX0_init 37 = .ok (.aload_n 0, 1) := by decide +kernel
theorem dX0_init_38 : decode cX0_init 38 = .ok (.iconst (-1), 1) := by decide +kernel
theorem dX0_init_39 : decode cX0_init 39 = .ok (.bipush 32, 2) := by decide +kernel
theorem dX0_init_41 : decode cX0_init 41 = .ok (.iload_n 1, 1) := by decide +kernel
theorem dX0_init_42 : decode cX0_init 42 = .ok (.isub, 1) := by decide +kernel
theorem dX0_init_43 : decode cX0_init 43 = .ok (.iushr, 1) := by decide +kernel
theorem dX0_init_44 : decode cX0_init 44 = .ok (.putfield 31, 3) := by decide +kernel
theorem dX0_init_47 : decode cX0_init 47 = .ok (.aload_n 0, 1) := by decide +kernel
theorem dX0_init_48 : decode cX0_init 48 = .ok (.iconst 1, 1) := by decide +kernel
theorem dX0_init_49 : decode cX0_init 49 = .ok (.iload_n 1, 1) := by decide +kernel
theorem dX0_init_50 : decode cX0_init 50 = .ok (.iconst 1, 1) := by decide +kernel
theorem dX0_init_51 : decode cX0_init 51 = .ok (.isub, 1) := by decide +kernel
theorem dX0_init_52 : decode cX0_init 52 = .ok (.ishl, 1) := by decide +kernel
theorem dX0_init_53 : decode cX0_init 53 = .ok (.putfield 34, 3) := by decide +kernel
theorem dX0_init_56 : decode cX0_init 56 = .ok (.return_, 1) := by decide +kernel
theorem dX0_timesX_0 : decode cX0_timesX 0 = .ok (.iload_n 1, 1) := by decide +kernel
theorem dX0_timesX_1 : decode cX0_timesX 1 = .ok (.iconst 1, 1) := by decide +kernel
theorem dX0_timesX_2 : decode cX0_timesX 2 = .ok (.ishl, 1) := by decide +kernel
theorem dX0_timesX_3 : decode cX0_timesX 3 = .ok (.aload_n 0, 1) := by decide +kernel
theorem dX0_timesX_4 : decode cX0_timesX 4 = .ok (.getfield 31, 3) := by decide +kernel
theorem dX0_timesX_7 : decode cX0_timesX 7 = .ok (.iand, 1) := by decide +kernel
theorem dX0_timesX_8 : decode cX0_timesX 8 = .ok (.istore_n 2, 1) := by decide +kernel
theorem dX0_timesX_9 : decode cX0_timesX 9 = .ok (.iload_n 1, 1) := by decide +kernel
theorem dX0_timesX_10 : decode cX0_timesX 10 = .ok (.aload_n 0, 1) := by decide +kernel
theorem dX0_timesX_11 : decode cX0_timesX 11 = .ok (.getfield 34, 3) := by decide +kernel
theorem dX0_timesX_14 : decode cX0_timesX 14 = .ok (.iand, 1) := by decide +kernel
theorem dX0_timesX_15 : decode cX0_timesX 15 = .ok (.ifCond .eq 12, 3) := by decide +kernel
theorem dX0_timesX_18 : decode cX0_timesX 18 = .ok (.iload_n 2, 1) := by decide +kernel
theorem dX0_timesX_19 : decode cX0_timesX 19 = .ok (.aload_n 0, 1) := by decide +kernel
theorem dX0_timesX_20 : decode cX0_timesX 20 = .ok (.getfield 15, 3) := by decide +kernel
theorem dX0_timesX_23 : decode cX0_timesX 23 = .ok (.ixor, 1) := by decide +kernel
theorem dX0_timesX_24 : decode cX0_timesX 24 = .ok (.goto 4, 3) := by decide +kernel
theorem dX0_timesX_27 : decode cX0_timesX 27 = .ok (.iload_n 2, 1) := by decide +kernel
theorem dX0_timesX_28 : decode cX0_timesX 28 = .ok (.ireturn, 1) := by decide +kernel
set_option maxRecDepth 20000 in
theorem ggX0_takeBit_X0_timesX : GoodIn wsX0_takeBit wsX0_timesX := goodIn_r _ [6, 7, 8, 9, 10, 11, 12, 13, 14, 15, 16, 17] (by decide +kernel) (by decide +kernel)
set_option maxRecDepth 20000 in
theorem gX0_takeBit_X0_timesX : GoodIn wsX0_takeBit (wsV RX0 37 RX0 yX0_timesX wsX0_timesX) := goodIn_app (goodIn_of _ (by decide +kernel)) ggX0_takeBit_X0_timesX
theorem dX0_takeBit_0 : decode cX0_takeBit 0 = .ok (.aload_n 0, 1) := by decide +kernel
theorem dX0_takeBit_1 : decode cX0_takeBit 1 = .ok (.iload_n 1, 1) := by decide +kernel
theorem dX0_takeBit_2 : decode cX0_takeBit 2 = .ok (.iload_n 2, 1) := by decide +kernel
theorem dX0_takeBit_3 : decode cX0_takeBit 3 = .ok (.aload_n 0, 1) := by decide +kernel
theorem dX0_takeBit_4 : decode cX0_takeBit 4 = .ok (.getfield 9, 3) := by decide +kernel
theorem dX0_takeBit_7 : decode cX0_takeBit 7 = .ok (.iconst 1, 1) := by decide +kernel
theorem dX0_takeBit_8 : decode cX0_takeBit 8 = .ok (.isub, 1) := by decide +kernel
theorem dX0_takeBit_9 : decode cX0_takeBit 9 = .ok (.ishl, 1) := by decide +kernel
theorem dX0_takeBit_10 : decode cX0_takeBit 10 = .ok (.ixor, 1) := by decide +kernel
theorem dX0_takeBit_11 : decode cX0_takeBit 11 = .ok (.invokevirtual 37, 3) := by decide +kernel
theorem dX0_takeBit_14 : decode cX0_takeBit 14 = .ok (.ireturn, 1) := by decide +kernel
set_option maxRecDepth 20000 in
theorem ggX0_takeByte_X0_inTakenOrder : GoodIn wsX0_takeByte wsX0_inTakenOrder := goodIn_r _ [5, 6, 7, 8, 9, 22, 23, 24, 25, 26, 27, 28, 29] (by decide +kernel) (by decide +kernel)
set_option maxRecDepth 20000 in
theorem gX0_takeByte_X0_inTakenOrder : GoodIn wsX0_takeByte (wsV RX0 45 RX0 yX0_inTakenOrder wsX0_inTakenOrder) := goodIn_app (goodIn_of _ (by decide +kernel)) ggX0_takeByte_X0_inTakenOrder
set_option maxRecDepth 20000 in
theorem ggX0_takeByte_X0_takeBit : GoodIn wsX0_takeByte wsX0_takeBit := goodIn_r _ [13, 14, 15, 16, 17, 4, 18, 19, 20, 21, 22, 23, 24, 25, 26, 27, 28, 29] (by decide +kernel) (by decide +kernel)
set_option maxRecDepth 20000 in
theorem gX0_takeByte_X0_takeBit : GoodIn wsX0_takeByte (wsV RX0 48 RX0 yX0_takeBit wsX0_takeBit) := goodIn_app (goodIn_of _ (by decide +kernel)) ggX0_takeByte_X0_takeBit
theorem dX0_takeByte_0 : decode cX0_takeByte 0 = .ok (.aload_n 0, 1) := by decide +kernel
theorem dX0_takeByte_1 : decode cX0_takeByte 1 = .ok (.iload_n 2, 1) := by decide +kernel
theorem dX0_takeByte_2 : decode cX0_takeByte 2 = .ok (.invokevirtual 45, 3) := by decide +kernel
theorem dX0_takeByte_5 : decode cX0_takeByte 5 = .ok (.istore_n 3, 1) := by decide +kernel
theorem dX0_takeByte_6 : decode cX0_takeByte 6 = .ok (.iload_n 1, 1) := by decide +kernel
theorem dX0_takeByte_7 : decode cX0_takeByte 7 = .ok (.istore 4, 2) := by decide +kernel
theorem dX0_takeByte_9 : decode cX0_takeByte 9 = .ok (.bipush 7, 2) := by decide +kernel
theorem dX0_takeByte_11 : decode cX0_takeByte 11 = .ok (.istore 5, 2) := by decide +kernel
theorem dX0_takeByte_13 : decode cX0_takeByte 13 = .ok (.iload 5, 2) := by decide +kernel
theorem dX0_takeByte_15 : decode cX0_takeByte 15 = .ok (.ifCond .lt 23, 3) := by decide +kernel
theorem dX0_takeByte_18 : decode cX0_takeByte 18 = .ok (.aload_n 0, 1) := by decide +kernel
theorem dX0_takeByte_19 : decode cX0_takeByte 19 = .ok (.iload 4, 2) := by decide +kernel
theorem dX0_takeByte_21 : decode cX0_takeByte 21 = .ok (.iload_n 3, 1) := by decide +kernel
theorem dX0_takeByte_22 : decode cX0_takeByte 22 = .ok (.iload 5, 2) := by decide +kernel
theorem dX0_takeByte_24 : decode cX0_takeByte 24 = .ok (.iushr, 1) := by decide +kernel
theorem dX0_takeByte_25 : decode cX0_takeByte 25 = .ok (.iconst 1, 1) := by decide +kernel
theorem dX0_takeByte_26 : decode cX0_takeByte 26 = .ok (.iand, 1) := by decide +kernel
theorem dX0_takeByte_27 : decode cX0_takeByte 27 = .ok (.invokevirtual 48, 3) := by decide +kernel
theorem dX0_takeByte_30 : decode cX0_takeByte 30 = .ok (.istore 4, 2) := by decide +kernel
theorem dX0_takeByte_32 : decode cX0_takeByte 32 = .ok (.iinc 5 (-1), 3) := by decide +kernel
theorem dX0_takeByte_35 : decode cX0_takeByte 35 = .ok (.goto (-22), 3) := by decide +kernel
theorem dX0_takeByte_38 : decode cX0_takeByte 38 = .ok (.iload 4, 2) := by decide +kernel
theorem dX0_takeByte_40 : decode cX0_takeByte 40 = .ok (.ireturn, 1) := by decide +kernel
set_option maxRecDepth 20000 in
theorem ggX0_divideByte_X0_timesX : GoodIn wsX0_divideByte wsX0_timesX := goodIn_r _ [5, 6, 7, 8, 9, 10, 11, 12, 13, 14, 15, 16] (by decide +kernel) (by decide +kernel)
set_option maxRecDepth 20000 in
theorem gX0_divideByte_X0_timesX : GoodIn wsX0_divideByte (wsV RX0 37 RX0 yX0_timesX wsX0_timesX) := goodIn_app (goodIn_of _ (by decide +kernel)) ggX0_divideByte_X0_timesX
theorem dX0_divideByte_0 : decode cX0_divideByte 0 = .ok (.iload_n 1, 1) := by decide +kernel
theorem dX0_divideByte_1 : decode cX0_divideByte 1 = .ok (.istore_n 3, 1) := by decide +kernel
theorem dX0_divideByte_2 : decode cX0_divideByte 2 = .ok (.bipush 7, 2) := by decide +kernel
theorem dX0_divideByte_4 : decode cX0_divideByte 4 = .ok (.istore 4, 2) := by decide +kernel
theorem dX0_divideByte_6 : decode cX0_divideByte 6 = .ok (.iload 4, 2) := by decide +kernel
theorem dX0_divideByte_8 : decode cX0_divideByte 8 = .ok (.ifCond .lt 22, 3) := by decide +kernel
theorem dX0_divideByte_11 : decode cX0_divideByte 11 = .ok (.aload_n 0, 1) := by decide +kernel
theorem dX0_divideByte_12 : decode cX0_divideByte 12 = .ok (.iload_n 3, 1) := by decide +kernel
theorem dX0_divideByte_13 : decode cX0_divideByte 13 = .ok (.invokevirtual 37, 3) := by decide +kernel
theorem dX0_divideByte_16 : decode cX0_divideByte 16 = .ok (.iload_n 2, 1) := by decide +kernel
theorem dX0_divideByte_17 : decode cX0_divideByte 17 = .ok (.iload 4, 2) := by decide +kernel
theorem dX0_divideByte_19 : decode cX0_divideByte 19 = .ok (.iushr, 1) := by decide +kernel
theorem dX0_divideByte_20 : decode cX0_divideByte 20 = .ok (.iconst 1, 1) := by decide +kernel
theorem dX0_divideByte_21 : decode cX0_divideByte 21 = .ok (.iand, 1) := by decide +kernel
theorem dX0_divideByte_22 : decode cX0_divideByte 22 = .ok (.ixor, 1) := by decide +kernel
theorem dX0_divideByte_23 : decode cX0_divideByte 23 = .ok (.istore_n 3, 1) := by decide +kernel
theorem dX0_divideByte_24 : decode cX0_divideByte 24 = .ok (.iinc 4 (-1), 3) := by decide +kernel
theorem dX0_divideByte_27 : decode cX0_divideByte 27 = .ok (.goto (-21), 3) := by decide +kernel
theorem dX0_divideByte_30 : decode cX0_divideByte 30 = .ok (.iload_n 3, 1) := by decide +kernel
theorem dX0_divideByte_31 : decode cX0_divideByte 31 = .ok (.ireturn, 1) := by decide +kernel
set_option maxRecDepth 20000 in
theorem ggX0_inTakenOrder_X1_reversed : GoodIn wsX0_inTakenOrder wsX1_reversed := goodIn_r _ [4] (by decide +kernel) (by decide +kernel)
set_option maxRecDepth 20000 in
theorem gX0_inTakenOrder_X1_reversed_n51 : GoodIn wsX0_inTakenOrder (wsX1_reversed) := ggX0_inTakenOrder_X1_reversed
theorem dX0_inTakenOrder_0 : decode cX0_inTakenOrder 0 = .ok (.aload_n 0, 1) := by decide +kernel
theorem dX0_inTakenOrder_1 : decode cX0_inTakenOrder 1 = .ok (.getfield 21, 3) := by decide +kernel
theorem dX0_inTakenOrder_4 : decode cX0_inTakenOrder 4 = .ok (.ifCond .eq 12, 3) := by decide +kernel
theorem dX0_inTakenOrder_7 : decode cX0_inTakenOrder 7 = .ok (.iload_n 1, 1) := by decide +kernel
theorem dX0_inTakenOrder_8 : decode cX0_inTakenOrder 8 = .ok (.bipush 8, 2) := by decide +kernel
theorem dX0_inTakenOrder_10 : decode cX0_inTakenOrder 10 = .ok (.invokestatic 51, 3) := by decide +kernel
theorem dX0_inTakenOrder_13 : decode cX0_inTakenOrder 13 = .ok (.goto 4, 3) := by decide +kernel
theorem dX0_inTakenOrder_16 : decode cX0_inTakenOrder 16 = .ok (.iload_n 1, 1) := by decide +kernel
theorem dX0_inTakenOrder_17 : decode cX0_inTakenOrder 17 = .ok (.ireturn, 1) := by decide +kernel
set_option maxRecDepth 20000 in
theorem ggX0_inSumOrder_X1_reversed : GoodIn wsX0_inSumOrder wsX1_reversed := goodIn_r _ [5] (by decide +kernel) (by decide +kernel)
set_option maxRecDepth 20000 in
theorem gX0_inSumOrder_X1_reversed_n51 : GoodIn wsX0_inSumOrder (wsX1_reversed) := ggX0_inSumOrder_X1_reversed
theorem dX0_inSumOrder_0 : decode cX0_inSumOrder 0 = .ok (.aload_n 0, 1) := by decide +kernel
theorem dX0_inSumOrder_1 : decode cX0_inSumOrder 1 = .ok (.getfield 25, 3) := by decide +kernel
theorem dX0_inSumOrder_4 : decode cX0_inSumOrder 4 = .ok (.ifCond .eq 14, 3) := by decide +kernel
theorem dX0_inSumOrder_7 : decode cX0_inSumOrder 7 = .ok (.iload_n 1, 1) := by decide +kernel
theorem dX0_inSumOrder_8 : decode cX0_inSumOrder 8 = .ok (.aload_n 0, 1) := by decide +kernel
theorem dX0_inSumOrder_9 : decode cX0_inSumOrder 9 = .ok (.getfield 9, 3) := by decide +kernel
theorem dX0_inSumOrder_12 : decode cX0_inSumOrder 12 = .ok (.invokestatic 51, 3) := by decide +kernel
theorem dX0_inSumOrder_15 : decode cX0_inSumOrder 15 = .ok (.goto 4, 3) := by decide +kernel
theorem dX0_inSumOrder_18 : decode cX0_inSumOrder 18 = .ok (.iload_n 1, 1) := by decide +kernel
theorem dX0_inSumOrder_19 : decode cX0_inSumOrder 19 = .ok (.ireturn, 1) := by decide +kernel
set_option maxRecDepth 20000 in
theorem ggX0_sumOfRegister_X0_inSumOrder : GoodIn wsX0_sumOfRegister wsX0_inSumOrder := goodIn_r _ [6, 7, 8, 9, 10, 11, 12, 13, 14, 15, 16, 17, 18, 19] (by decide +kernel) (by decide +kernel)
set_option maxRecDepth 20000 in
theorem gX0_sumOfRegister_X0_inSumOrder : GoodIn wsX0_sumOfRegister (wsV RX0 54 RX0 yX0_inSumOrder wsX0_inSumOrder) := goodIn_app (goodIn_of _ (by decide +kernel)) ggX0_sumOfRegister_X0_inSumOrder
theorem dX0_sumOfRegister_0 : decode cX0_sumOfRegister 0 = .ok (.aload_n 0, 1) := by decide +kernel
theorem dX0_sumOfRegister_1 : decode cX0_sumOfRegister 1 = .ok (.iload_n 1, 1) := by decide +kernel
theorem dX0_sumOfRegister_2 : decode cX0_sumOfRegister 2 = .ok (.invokevirtual 54, 3) := by decide +kernel
theorem dX0_sumOfRegister_5 : decode cX0_sumOfRegister 5 = .ok (.aload_n 0, 1) := by decide +kernel
theorem dX0_sumOfRegister_6 : decode cX0_sumOfRegister 6 = .ok (.getfield 28, 3) := by decide +kernel
theorem dX0_sumOfRegister_9 : decode cX0_sumOfRegister 9 = .ok (.ixor, 1) := by decide +kernel
theorem dX0_sumOfRegister_10 : decode cX0_sumOfRegister 10 = .ok (.ireturn, 1) := by decide +kernel
