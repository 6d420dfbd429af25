theorem dX2_period_28 : decode cX2_period 28 = .ok (.iload_n 2, 1) := by decide +kernel
theorem dX2_period_29 : decode cX2_period 29 = .ok (.if_icmp .gt 24, 3) := by decide +kernel
theorem dX2_period_32 : decode cX2_period 32 = .ok (.aload_n 0, 1) := by decide +kernel
theorem dX2_period_33 : decode cX2_period 33 = .ok (.iload_n 1, 1) := by decide +kernel
theorem dX2_period_34 : decode cX2_period 34 = .ok (.iload_n 3, 1) := by decide +kernel
theorem dX2_period_35 : decode cX2_period 35 = .ok (.invokevirtual 50, 3) := by decide +kernel
theorem dX2_period_38 : decode cX2_period 38 = .ok (.istore_n 3, 1) := by decide +kernel
theorem dX2_period_39 : decode cX2_period 39 = .ok (.iload_n 3, 1) := by decide +kernel
theorem dX2_period_40 : decode cX2_period 40 = .ok (.iconst 1, 1) := by decide +kernel
theorem dX2_period_41 : decode cX2_period 41 = .ok (.if_icmp .ne 6, 3) := by decide +kernel
theorem dX2_period_44 : decode cX2_period 44 = .ok (.iload 4, 2) := by decide +kernel
theorem dX2_period_46 : decode cX2_period 46 = .ok (.ireturn, 1) := by decide +kernel
theorem dX2_period_47 : decode cX2_period 47 = .ok (.iinc 4 1, 3) := by decide +kernel
theorem dX2_period_50 : decode cX2_period 50 = .ok (.goto (-24), 3) := by decide +kernel
theorem dX2_period_53 : decode cX2_period 53 = .ok (.iconst (-1), 1) := by decide +kernel
theorem dX2_period_54 : decode cX2_period 54 = .ok (.ireturn, 1) := by decide +kernel
theorem dX2_puts_0 : decode cX2_puts 0 = .ok (.aload_n 0, 1) := by decide +kernel
theorem dX2_puts_1 : decode cX2_puts 1 = .ok (.getfield 29, 3) := by decide +kernel
theorem dX2_puts_4 : decode cX2_puts 4 = .ok (.sipush 256, 3) := by decide +kernel
theorem dX2_puts_7 : decode cX2_puts 7 = .ok (.iload_n 1, 1) := by decide +kernel
theorem dX2_puts_8 : decode cX2_puts 8 = .ok (.imul, 1) := by decide +kernel
theorem dX2_puts_9 : decode cX2_puts 9 = .ok (.aload_n 0, 1) := by decide +kernel
theorem dX2_puts_10 : decode cX2_puts 10 = .ok (.getfield 32, 3) := by decide +kernel
theorem dX2_puts_13 : decode cX2_puts 13 = .ok (.iload_n 1, 1) := by decide +kernel
theorem dX2_puts_14 : decode cX2_puts 14 = .ok (.iaload, 1) := by decide +kernel
theorem dX2_puts_15 : decode cX2_puts 15 = .ok (.iadd, 1) := by decide +kernel
theorem dX2_puts_16 : decode cX2_puts 16 = .ok (.iload_n 2, 1) := by decide +kernel
theorem dX2_puts_17 : decode cX2_puts 17 = .ok (.iastore, 1) := by decide +kernel
theorem dX2_puts_18 : decode cX2_puts 18 = .ok (.aload_n 0, 1) := by decide +kernel
theorem dX2_puts_19 : decode cX2_puts 19 = .ok (.getfield 32, 3) := by decide +kernel
theorem dX2_puts_22 : decode cX2_puts 22 = .ok (.iload_n 1, 1) := by decide +kernel
theorem dX2_puts_23 : decode cX2_puts 23 = .ok (.dup2, 1) := by decide +kernel
theorem dX2_puts_24 : decode cX2_puts 24 = .ok (.iaload, 1) := by decide +kernel
theorem dX2_puts_25 : decode cX2_puts 25 = .ok (.iconst 1, 1) := by decide +kernel
theorem dX2_puts_26 : decode cX2_puts 26 = .ok (.iadd, 1) := by decide +kernel
theorem dX2_puts_27 : decode cX2_puts 27 = .ok (.iastore, 1) := by decide +kernel
theorem dX2_puts_28 : decode cX2_puts 28 = .ok (.return_, 1) := by decide +kernel
set_option maxRecDepth 20000 in
theorem ggX2_append_X2_isRow : GoodIn wsX2_append wsX2_isRow := goodIn_r _ [6, 7, 8, 5, 9] (by decide +kernel) (by decide +kernel)
set_option maxRecDepth 20000 in
theorem gX2_append_X2_isRow : GoodIn wsX2_append (va_wsS RX2 87 yX2_isRow wsX2_isRow) := goodIn_app (goodIn_of _ (by decide +kernel)) ggX2_append_X2_isRow
set_option maxRecDepth 20000 in
theorem ggX2_append_X2_isByte : GoodIn wsX2_append wsX2_isByte := goodIn_r _ [12, 7, 8, 5, 9] (by decide +kernel) (by decide +kernel)
set_option maxRecDepth 20000 in
theorem gX2_append_X2_isByte : GoodIn wsX2_append (va_wsS RX2 90 yX2_isByte wsX2_isByte) := goodIn_app (goodIn_of _ (by decide +kernel)) ggX2_append_X2_isByte
set_option maxRecDepth 20000 in
theorem ggX2_append_X2_puts : GoodIn wsX2_append wsX2_puts := goodIn_r _ [16, 17, 1, 18, 19, 20, 21, 22, 23, 24, 25, 26, 27] (by decide +kernel) (by decide +kernel)
set_option maxRecDepth 20000 in
theorem gX2_append_X2_puts : GoodIn wsX2_append (wsV RX2 93 RX2 yX2_puts wsX2_puts) := goodIn_app (goodIn_of _ (by decide +kernel)) ggX2_append_X2_puts
theorem dX2_append_0 : decode cX2_append 0 = .ok (.aload_n 0, 1) := by decide +kernel
theorem dX2_append_1 : decode cX2_append 1 = .ok (.iload_n 1, 1) := by decide +kernel
theorem dX2_append_2 : decode cX2_append 2 = .ok (.invokestatic 87, 3) := by decide +kernel
theorem dX2_append_5 : decode cX2_append 5 = .ok (.ifCond .ne 7, 3) := by decide +kernel
theorem dX2_append_8 : decode cX2_append 8 = .ok (.iconst 1, 1) := by decide +kernel
theorem dX2_append_9 : decode cX2_append 9 = .ok (.goto 31, 3) := by decide +kernel
theorem dX2_append_12 : decode cX2_append 12 = .ok (.iload_n 2, 1) := by decide +kernel
theorem dX2_append_13 : decode cX2_append 13 = .ok (.invokestatic 90, 3) := by decide +kernel
theorem dX2_append_16 : decode cX2_append 16 = .ok (.ifCond .ne 7, 3) := by decide +kernel
theorem dX2_append_19 : decode cX2_append 19 = .ok (.iconst 2, 1) := by decide +kernel
theorem dX2_append_20 : decode cX2_append 20 = .ok (.goto 20, 3) := by decide +kernel
theorem dX2_append_23 : decode cX2_append 23 = .ok (.aload_n 0, 1) := by decide +kernel
theorem dX2_append_24 : decode cX2_append 24 = .ok (.getfield 32, 3) := by decide +kernel
theorem dX2_append_27 : decode cX2_append 27 = .ok (.iload_n 1, 1) := by decide +kernel
theorem dX2_append_28 : decode cX2_append 28 = .ok (.iaload, 1) := by decide +kernel
theorem dX2_append_29 : decode cX2_append 29 = .ok (.sipush 256, 3) := by decide +kernel
theorem dX2_append_32 : decode cX2_append 32 = .ok (.if_icmp .ne 7, 3) := by decide +kernel
theorem dX2_append_35 : decode cX2_append 35 = .ok (.iconst 3, 1) := by decide +kernel
theorem dX2_append_36 : decode cX2_append 36 = .ok (.goto 4, 3) := by decide +kernel
theorem dX2_append_39 : decode cX2_append 39 = .ok (.iconst 0, 1) := by decide +kernel
theorem dX2_append_40 : decode cX2_append 40 = .ok (.putfield 35, 3) := by decide +kernel
theorem dX2_append_43 : decode cX2_append 43 = .ok (.aload_n 0, 1) := by decide +kernel
theorem dX2_append_44 : decode cX2_append 44 = .ok (.getfield 35, 3) := by decide +kernel
theorem dX2_append_47 : decode cX2_append 47 = .ok (.ifCond .le 5, 3) := by decide +kernel
theorem dX2_append_50 : decode cX2_append 50 = .ok (.iconst 0, 1) := by decide +kernel
theorem dX2_append_51 : decode cX2_append 51 = .ok (.ireturn, 1) := by decide +kernel
theorem dX2_append_52 : decode cX2_append 52 = .ok (.aload_n 0, 1) := by decide +kernel
theorem dX2_append_53 : decode cX2_append 53 = .ok (.iload_n 1, 1) := by decide +kernel
theorem dX2_append_54 : decode cX2_append 54 = .ok (.iload_n 2, 1) := by decide +kernel
theorem dX2_append_55 : decode cX2_append 55 = .ok (.invokevirtual 93, 3) := by decide +kernel
theorem dX2_append_58 : decode cX2_append 58 = .ok (.aload_n 0, 1) := by decide +kernel
theorem dX2_append_59 : decode cX2_append 59 = .ok (.getfield 32, 3) := by decide +kernel
theorem dX2_append_62 : decode cX2_append 62 = .ok (.iload_n 1, 1) := by decide +kernel
theorem dX2_append_63 : decode cX2_append 63 = .ok (.iaload, 1) := by decide +kernel
theorem dX2_append_64 : decode cX2_append 64 = .ok (.ireturn, 1) := by decide +kernel
set_option maxRecDepth 20000 in
theorem ggX2_appendSeries_X2_isByte : GoodIn wsX2_appendSeries wsX2_isByte := goodIn_r _ [6, 7, 8, 5, 9] (by decide +kernel) (by decide +kernel)
set_option maxRecDepth 20000 in
theorem gX2_appendSeries_X2_isByte : GoodIn wsX2_appendSeries (va_wsS RX2 90 yX2_isByte wsX2_isByte) := goodIn_app (goodIn_of _ (by decide +kernel)) ggX2_appendSeries_X2_isByte
set_option maxRecDepth 20000 in
theorem ggX2_appendSeries_X2_in : GoodIn wsX2_appendSeries wsX2_in := goodIn_r _ [9] (by decide +kernel) (by decide +kernel)
set_option maxRecDepth 20000 in
theorem gX2_appendSeries_X2_in : GoodIn wsX2_appendSeries (va_wsS RX2 42 yX2_in wsX2_in) := goodIn_app (goodIn_of _ (by decide +kernel)) ggX2_appendSeries_X2_in
set_option maxRecDepth 20000 in
theorem ggX2_appendSeries_X2_isRow : GoodIn wsX2_appendSeries wsX2_isRow := goodIn_r _ [12, 7, 8, 5, 9] (by decide +kernel) (by decide +kernel)
set_option maxRecDepth 20000 in
theorem gX2_appendSeries_X2_isRow : GoodIn wsX2_appendSeries (va_wsS RX2 87 yX2_isRow wsX2_isRow) := goodIn_app (goodIn_of _ (by decide +kernel)) ggX2_appendSeries_X2_isRow
set_option maxRecDepth 20000 in
theorem ggX2_appendSeries_X2_puts : GoodIn wsX2_appendSeries wsX2_puts := goodIn_r _ [16, 17, 1, 18, 19, 20, 21, 22, 23, 24, 25, 26, 27] (by decide +kernel) (by decide +kernel)
set_option maxRecDepth 20000 in
theorem gX2_appendSeries_X2_puts : GoodIn wsX2_appendSeries (wsV RX2 93 RX2 yX2_puts wsX2_puts) := goodIn_app (goodIn_of _ (by decide +kernel)) ggX2_appendSeries_X2_puts
theorem dX2_appendSeries_0 : decode cX2_appendSeries 0 = .ok (.iload_n 2, 1) := by decide +kernel
theorem dX2_appendSeries_1 : decode cX2_appendSeries 1 = .ok (.invokestatic 90, 3) := by decide +kernel
theorem dX2_appendSeries_4 : decode cX2_appendSeries 4 = .ok (.ifCond .eq 26, 3) := by decide +kernel
theorem dX2_appendSeries_7 : decode cX2_appendSeries 7 = .ok (.iload_n 3, 1) := by decide +kernel
theorem dX2_appendSeries_8 : decode cX2_appendSeries 8 = .ok (.invokestatic 90, 3) := by decide +kernel
theorem dX2_appendSeries_11 : decode cX2_appendSeries 11 = .ok (.ifCond .eq 19, 3) := by decide +kernel
theorem dX2_appendSeries_14 : decode cX2_appendSeries 14 = .ok (.iload 4, 2) := by decide +kernel
theorem dX2_appendSeries_16 : decode cX2_appendSeries 16 = .ok (.iconst 1, 1) := by decide +kernel
theorem dX2_appendSeries_17 : decode cX2_appendSeries 17 = .ok (.sipush 256, 3) := by decide +kernel
theorem dX2_appendSeries_20 : decode cX2_appendSeries 20 = .ok (.invokestatic 42, 3) := by decide +kernel
theorem dX2_appendSeries_23 : decode cX2_appendSeries 23 = .ok (.ifCond .eq 7, 3) := by decide +kernel
theorem dX2_appendSeries_26 : decode cX2_appendSeries 26 = .ok (.iconst 1, 1) := by decide +kernel
theorem dX2_appendSeries_27 : decode cX2_appendSeries 27 = .ok (.goto 4, 3) := by decide +kernel
theorem dX2_appendSeries_30 : decode cX2_appendSeries 30 = .ok (.iconst 0, 1) := by decide +kernel
theorem dX2_appendSeries_31 : decode cX2_appendSeries 31 = .ok (.istore 5, 2) := by decide +kernel
theorem dX2_appendSeries_33 : decode cX2_appendSeries 33 = .ok (.aload_n 0, 1) := by decide +kernel
theorem dX2_appendSeries_34 : decode cX2_appendSeries 34 = .ok (.iload_n 1, 1) := by decide +kernel
theorem dX2_appendSeries_35 : decode cX2_appendSeries 35 = .ok (.invokestatic 87, 3) := by decide +kernel
theorem dX2_appendSeries_38 : decode cX2_appendSeries 38 = .ok (.ifCond .ne 7, 3) := by decide +kernel
theorem dX2_appendSeries_41 : decode cX2_appendSeries 41 = .ok (.iconst 1, 1) := by decide +kernel
theorem dX2_appendSeries_42 : decode cX2_appendSeries 42 = .ok (.goto 32, 3) := by decide +kernel
theorem dX2_appendSeries_45 : decode cX2_appendSeries 45 = .ok (.iload 5, 2) := by decide +kernel
theorem dX2_appendSeries_47 : decode cX2_appendSeries 47 = .ok (.ifCond .ne 7, 3) := by decide +kernel
theorem dX2_appendSeries_50 : decode cX2_appendSeries 50 = .ok (.iconst 2, 1) := by decide +kernel
theorem dX2_appendSeries_51 : decode cX2_appendSeries 51 = .ok (.goto 23, 3) := by decide +kernel
theorem dX2_appendSeries_54 : decode cX2_appendSeries 54 = .ok (.aload_n 0, 1) := by decide +kernel
theorem dX2_appendSeries_55 : decode cX2_appendSeries 55 = .ok (.getfield 32, 3) := by decide +kernel
theorem dX2_appendSeries_58 : decode cX2_appendSeries 58 = .ok (.iload_n 1, 1) := by decide +kernel
theorem dX2_appendSeries_59 : decode cX2_appendSeries 59 = .ok (.iaload, 1) := by decide +kernel
theorem dX2_appendSeries_60 : decode cX2_appendSeries 60 = .ok (.iload 4, 2) := by decide +kernel
theorem dX2_appendSeries_62 : decode cX2_appendSeries 62 = .ok (.iadd, 1) := by decide +kernel
theorem dX2_appendSeries_63 : decode cX2_appendSeries 63 = .ok (.sipush 256, 3) := by decide +kernel
theorem dX2_appendSeries_66 : decode cX2_appendSeries 66 = .ok (.if_icmp .le 7, 3) := by decide +kernel
theorem dX2_appendSeries_69 : decode cX2_appendSeries 69 = .ok (.iconst 3, 1) := by decide +kernel
theorem dX2_appendSeries_70 : decode cX2_appendSeries 70 = .ok (.goto 4, 3) := by decide +kernel
theorem dX2_appendSeries_73 : decode cX2_appendSeries 73 = .ok (.iconst 0, 1) := by decide +kernel
theorem dX2_appendSeries_74 : decode cX2_appendSeries 74 = .ok (.putfield 35, 3) := by decide +kernel
theorem dX2_appendSeries_77 : decode cX2_appendSeries 77 = .ok (.aload_n 0, 1) := by decide +kernel
theorem dX2_appendSeries_78 : decode cX2_appendSeries 78 = .ok (.getfield 35, 3) := by decide +kernel
theorem dX2_appendSeries_81 : decode cX2_appendSeries 81 = .ok (.ifCond .le 5, 3) := by decide +kernel
theorem dX2_appendSeries_84 : decode cX2_appendSeries 84 = .ok (.iconst 0, 1) := by decide +kernel
theorem dX2_appendSeries_85 : decode cX2_appendSeries 85 = .ok (.ireturn, 1) := by decide +kernel
theorem dX2_appendSeries_86 : decode cX2_appendSeries 86 = .ok (.iconst 0, 1) := by decide +kernel
theorem dX2_appendSeries_87 : decode cX2_appendSeries 87 = .ok (.istore 6, 2) := by decide +kernel
theorem dX2_appendSeries_89 : decode cX2_appendSeries 89 = .ok (.iload 6, 2) := by decide +kernel
theorem dX2_appendSeries_91 : decode cX2_appendSeries 91 = .ok (.iload 4, 2) := by decide +kernel
theorem dX2_appendSeries_93 : decode cX2_appendSeries 93 = .ok (.if_icmp .ge 24, 3) := by decide +kernel
theorem dX2_appendSeries_96 : decode cX2_appendSeries 96 = .ok (.aload_n 0, 1) := by decide +kernel
theorem dX2_appendSeries_97 : decode cX2_appendSeries 97 = .ok (.iload_n 1, 1) := by decide +kernel
theorem dX2_appendSeries_98 : decode cX2_appendSeries 98 = .ok (.iload_n 2, 1) := by decide +kernel
theorem dX2_appendSeries_99 : decode cX2_appendSeries 99 = .ok (.iload_n 3, 1) := by decide +kernel
theorem dX2_appendSeries_100 : decode cX2_appendSeries 100 = .ok (.iload 6, 2) := by decide +kernel
theorem dX2_appendSeries_102 : decode cX2_appendSeries 102 = .ok (.imul, 1) := by decide +kernel
theorem dX2_appendSeries_103 : decode cX2_appendSeries 103 = .ok (.iadd, 1) := by decide +kernel
theorem dX2_appendSeries_104 : decode cX2_appendSeries 104 = .ok (.sipush 256, 3) := by decide +kernel
theorem dX2_appendSeries_107 : decode cX2_appendSeries 107 = .ok (.irem, 1) := by decide +kernel
theorem dX2_appendSeries_108 : decode cX2_appendSeries 108 = .ok (.invokevirtual 93, 3) := by decide +kernel
theorem dX2_appendSeries_111 : decode cX2_appendSeries 111 = .ok (.iinc 6 1, 3) := by decide +kernel
theorem dX2_appendSeries_114 : decode cX2_appendSeries 114 = .ok (.goto (-25), 3) := by decide +kernel
theorem dX2_appendSeries_117 : decode cX2_appendSeries 117 = .ok (.aload_n 0, 1) := by decide +kernel
theorem dX2_appendSeries_118 : decode cX2_appendSeries 118 = .ok (.getfield 32, 3) := by decide +kernel
theorem dX2_appendSeries_121 : decode cX2_appendSeries 121 = .ok (.iload_n 1, 1) := by decide +kernel
theorem dX2_appendSeries_122 : decode cX2_appendSeries 122 = .ok (.iaload, 1) := by decide +kernel
theorem dX2_appendSeries_123 : decode cX2_appendSeries 123 = .ok (.ireturn, 1) := by decide +kernel
set_option maxRecDepth 20000 in
theorem ggX2_appendRow_X2_isRow : GoodIn wsX2_appendRow wsX2_isRow := goodIn_r _ [6, 7, 8, 5, 9] (by decide +kernel) (by decide +kernel)
set_option maxRecDepth 20000 in
theorem gX2_appendRow_X2_isRow : GoodIn wsX2_appendRow (va_wsS RX2 87 yX2_isRow wsX2_isRow) := goodIn_app (goodIn_of _ (by decide +kernel)) ggX2_appendRow_X2_isRow
set_option maxRecDepth 20000 in
theorem ggX2_appendRow_X2_asked_ : GoodIn wsX2_appendRow wsX2_asked_ := goodIn_r _ [13, 14, 19, 20, 21, 22, 23, 24, 25, 26, 27, 28] (by decide +kernel) (by decide +kernel)
set_option maxRecDepth 20000 in
theorem gX2_appendRow_X2_asked_ : GoodIn wsX2_appendRow (wsV RX2 61 RX2 yX2_asked_ wsX2_asked_) := goodIn_app (goodIn_of _ (by decide +kernel)) ggX2_appendRow_X2_asked_
set_option maxRecDepth 20000 in
theorem ggX2_appendRow_X2_puts : GoodIn wsX2_appendRow wsX2_puts := goodIn_r _ [18, 2, 1, 19, 20, 21, 22, 23, 24, 25, 26, 27, 28] (by decide +kernel) (by decide +kernel)
set_option maxRecDepth 20000 in
theorem gX2_appendRow_X2_puts : GoodIn wsX2_appendRow (wsV RX2 93 RX2 yX2_puts wsX2_puts) := goodIn_app (goodIn_of _ (by decide +kernel)) ggX2_appendRow_X2_puts
theorem dX2_appendRow_0 : decode cX2_appendRow 0 = .ok (.iload_n 1, 1) := by decide +kernel
theorem dX2_appendRow_1 : decode cX2_appendRow 1 = .ok (.invokestatic 87, 3) := by decide +kernel
theorem dX2_appendRow_4 : decode cX2_appendRow 4 = .ok (.ifCond .eq 14, 3) := by decide +kernel
theorem dX2_appendRow_7 : decode cX2_appendRow 7 = .ok (.iload_n 2, 1) := by decide +kernel
theorem dX2_appendRow_8 : decode cX2_appendRow 8 = .ok (.invokestatic 87, 3) := by decide +kernel
theorem dX2_appendRow_11 : decode cX2_appendRow 11 = .ok (.ifCond .eq 7, 3) := by decide +kernel
theorem dX2_appendRow_14 : decode cX2_appendRow 14 = .ok (.iconst 1, 1) := by decide +kernel
theorem dX2_appendRow_15 : decode cX2_appendRow 15 = .ok (.goto 4, 3) := by decide +kernel
theorem dX2_appendRow_18 : decode cX2_appendRow 18 = .ok (.iconst 0, 1) := by decide +kernel
theorem dX2_appendRow_19 : decode cX2_appendRow 19 = .ok (.istore_n 3, 1) := by decide +kernel
theorem dX2_appendRow_20 : decode cX2_appendRow 20 = .ok (.aload_n 0, 1) := by decide +kernel
theorem dX2_appendRow_21 : decode cX2_appendRow 21 = .ok (.iload_n 3, 1) := by decide +kernel
theorem dX2_appendRow_22 : decode cX2_appendRow 22 = .ok (.iload_n 3, 1) := by decide +kernel
theorem dX2_appendRow_23 : decode cX2_appendRow 23 = .ok (.ifCond .eq 26, 3) := by decide +kernel
theorem dX2_appendRow_26 : decode cX2_appendRow 26 = .ok (.aload_n 0, 1) := by decide +kernel
theorem dX2_appendRow_27 : decode cX2_appendRow 27 = .ok (.getfield 32, 3) := by decide +kernel
theorem dX2_appendRow_30 : decode cX2_appendRow 30 = .ok (.iload_n 1, 1) := by decide +kernel
theorem dX2_appendRow_31 : decode cX2_appendRow 31 = .ok (.iaload, 1) := by decide +kernel
theorem dX2_appendRow_32 : decode cX2_appendRow 32 = .ok (.aload_n 0, 1) := by decide +kernel
theorem dX2_appendRow_33 : decode cX2_appendRow 33 = .ok (.getfield 32, 3) := by decide +kernel
theorem dX2_appendRow_36 : decode cX2_appendRow 36 = .ok (.iload_n 2, 1) := by decide +kernel
theorem dX2_appendRow_37 : decode cX2_appendRow 37 = .ok (.iaload, 1) := by decide +kernel
theorem dX2_appendRow_38 : decode cX2_appendRow 38 = .ok (.iadd, 1) := by decide +kernel
theorem dX2_appendRow_39 : decode cX2_appendRow 39 = .ok (.sipush 256, 3) := by decide +kernel
theorem dX2_appendRow_42 : decode cX2_appendRow 42 = .ok (.if_icmp .gt 7, 3) := by decide +kernel
theorem dX2_appendRow_45 : decode cX2_appendRow 45 = .ok (.iconst 1, 1) := by decide +kernel
theorem dX2_appendRow_46 : decode cX2_appendRow 46 = .ok (.goto 4, 3) := by decide +kernel
theorem dX2_appendRow_49 : decode cX2_appendRow 49 = .ok (.iconst 0, 1) := by decide +kernel
theorem dX2_appendRow_50 : decode cX2_appendRow 50 = .ok (.invokevirtual 61, 3) := by decide +kernel
theorem dX2_appendRow_53 : decode cX2_appendRow 53 = .ok (.ifCond .ne 5, 3) := by decide +kernel
theorem dX2_appendRow_56 : decode cX2_appendRow 56 = .ok (.iconst 0, 1) := by decide +kernel
theorem dX2_appendRow_57 : decode cX2_appendRow 57 = .ok (.ireturn, 1) := by decide +kernel
theorem dX2_appendRow_58 : decode cX2_appendRow 58 = .ok (.aload_n 0, 1) := by decide +kernel
theorem dX2_appendRow_59 : decode cX2_appendRow 59 = .ok (.getfield 32, 3) := by decide +kernel
theorem dX2_appendRow_62 : decode cX2_appendRow 62 = .ok (.iload_n 2, 1) := by decide +kernel
theorem dX2_appendRow_63 : decode cX2_appendRow 63 = .ok (.iaload, 1) := by decide +kernel
theorem dX2_appendRow_64 : decode cX2_appendRow 64 = .ok (.istore 4, 2) := by decide +kernel
theorem dX2_appendRow_66 : decode cX2_appendRow 66 = .ok (.iconst 0, 1) := by decide +kernel
theorem dX2_appendRow_67 : decode cX2_appendRow 67 = .ok (.istore 5, 2) := by decide +kernel
theorem dX2_appendRow_69 : decode cX2_appendRow 69 = .ok (.iload 5, 2) := by decide +kernel
theorem dX2_appendRow_71 : decode cX2_appendRow 71 = .ok (.iload 4, 2) := by decide +kernel
theorem dX2_appendRow_73 : decode cX2_appendRow 73 = .ok (.if_icmp .ge 27, 3) := by decide +kernel
theorem dX2_appendRow_76 : decode cX2_appendRow 76 = .ok (.aload_n 0, 1) := by decide +kernel
theorem dX2_appendRow_77 : decode cX2_appendRow 77 = .ok (.iload_n 1, 1) := by decide +kernel
theorem dX2_appendRow_78 : decode cX2_appendRow 78 = .ok (.aload_n 0, 1) := by decide +kernel
theorem dX2_appendRow_79 : decode cX2_appendRow 79 = .ok (.getfield 29, 3) := by decide +kernel
theorem dX2_appendRow_82 : decode cX2_appendRow 82 = .ok (.sipush 256, 3) := by decide +kernel
theorem dX2_appendRow_85 : decode cX2_appendRow 85 = .ok (.iload_n 2, 1) := by decide +kernel
theorem dX2_appendRow_86 : decode cX2_appendRow 86 = .ok (.imul, 1) := by decide +kernel
theorem dX2_appendRow_87 : decode cX2_appendRow 87 = .ok (.iload 5, 2) := by decide +kernel
theorem dX2_appendRow_89 : decode cX2_appendRow 89 = .ok (.iadd, 1) := by decide +kernel
theorem dX2_appendRow_90 : decode cX2_appendRow 90 = .ok (.iaload, 1) := by decide +kernel
theorem dX2_appendRow_91 : decode cX2_appendRow 91 = .ok (.invokevirtual 93, 3) := by decide +kernel
theorem dX2_appendRow_94 : decode cX2_appendRow 94 = .ok (.iinc 5 1, 3) := by decide +kernel
theorem dX2_appendRow_97 : decode cX2_appendRow 97 = .ok (.goto (-28), 3) := by decide +kernel
theorem dX2_appendRow_100 : decode cX2_appendRow 100 = .ok (.aload_n 0, 1) := by decide +kernel
theorem dX2_appendRow_101 : decode cX2_appendRow 101 = .ok (.getfield 32, 3) := by decide +kernel
theorem dX2_appendRow_104 : decode cX2_appendRow 104 = .ok (.iload_n 1, 1) := by decide +kernel
theorem dX2_appendRow_105 : decode cX2_appendRow 105 = .ok (.iaload, 1) := by decide +kernel
theorem dX2_appendRow_106 : decode cX2_appendRow 106 = .ok (.ireturn, 1) := by decide +kernel
set_option maxRecDepth 20000 in
theorem ggX2_isPlace_X2_isRow : GoodIn wsX2_isPlace wsX2_isRow := goodIn_r _ [5, 6, 7, 4, 8] (by decide +kernel) (by decide +kernel)
set_option maxRecDepth 20000 in
theorem gX2_isPlace_X2_isRow : GoodIn wsX2_isPlace (va_wsS RX2 87 yX2_isRow wsX2_isRow) := goodIn_app (goodIn_of _ (by decide +kernel)) ggX2_isPlace_X2_isRow
set_option maxRecDepth 20000 in
theorem ggX2_isPlace_X2_in : GoodIn wsX2_isPlace wsX2_in := goodIn_r _ [8] (by decide +kernel) (by decide +kernel)
set_option maxRecDepth 20000 in
theorem gX2_isPlace_X2_in : GoodIn wsX2_isPlace (va_wsS RX2 42 yX2_in wsX2_in) := goodIn_app (goodIn_of _ (by decide +kernel)) ggX2_isPlace_X2_in
theorem dX2_isPlace_0 : decode cX2_isPlace 0 = .ok (.iload_n 1, 1) := by decide +kernel
theorem dX2_isPlace_1 : decode cX2_isPlace 1 = .ok (.invokestatic 87, 3) := by decide +kernel
theorem dX2_isPlace_4 : decode cX2_isPlace 4 = .ok (.ifCond .eq 23, 3) := by decide +kernel
theorem dX2_isPlace_7 : decode cX2_isPlace 7 = .ok (.iload_n 2, 1) := by decide +kernel
theorem dX2_isPlace_8 : decode cX2_isPlace 8 = .ok (.iconst 0, 1) := by decide +kernel
theorem dX2_isPlace_9 : decode cX2_isPlace 9 = .ok (.aload_n 0, 1) := by decide +kernel
theorem dX2_isPlace_10 : decode cX2_isPlace 10 = .ok (.getfield 32, 3) := by decide +kernel
theorem dX2_isPlace_13 : decode cX2_isPlace 13 = .ok (.iload_n 1, 1) := by decide +kernel
theorem dX2_isPlace_14 : decode cX2_isPlace 14 = .ok (.iaload, 1) := by decide +kernel
theorem dX2_isPlace_15 : decode cX2_isPlace 15 = .ok (.iconst 1, 1) := by decide +kernel
theorem dX2_isPlace_16 : decode cX2_isPlace 16 = .ok (.isub, 1) := by decide +kernel
theorem dX2_isPlace_17 : decode cX2_isPlace 17 = .ok (.invokestatic 42, 3) := by decide +kernel
theorem dX2_isPlace_20 : decode cX2_isPlace 20 = .ok (.ifCond .eq 7, 3) := by decide +kernel
theorem dX2_isPlace_23 : decode cX2_isPlace 23 = .ok (.iconst 1, 1) := by decide +kernel
theorem dX2_isPlace_24 : decode cX2_isPlace 24 = .ok (.goto 4, 3) := by decide +kernel
theorem dX2_isPlace_27 : decode cX2_isPlace 27 = .ok (.iconst 0, 1) := by decide +kernel
theorem dX2_isPlace_28 : decode cX2_isPlace 28 = .ok (.ireturn, 1) := by decide +kernel
set_option maxRecDepth 20000 in
theorem ggX2_setByte_X2_isPlace : GoodIn wsX2_setByte wsX2_isPlace := goodIn_r _ [6, 7, 8, 9, 5, 10, 11, 12, 13, 22, 23, 24, 25, 26, 27, 28, 29, 30, 31] (by decide +kernel) (by decide +kernel)
set_option maxRecDepth 20000 in
theorem gX2_setByte_X2_isPlace : GoodIn wsX2_setByte (wsV RX2 97 RX2 yX2_isPlace wsX2_isPlace) := goodIn_app (goodIn_of _ (by decide +kernel)) ggX2_setByte_X2_isPlace
set_option maxRecDepth 20000 in
theorem ggX2_setByte_X2_isByte : GoodIn wsX2_setByte wsX2_isByte := goodIn_r _ [16, 11, 12, 5, 13] (by decide +kernel) (by decide +kernel)
set_option maxRecDepth 20000 in
theorem gX2_setByte_X2_isByte : GoodIn wsX2_setByte (va_wsS RX2 90 yX2_isByte wsX2_isByte) := goodIn_app (goodIn_of _ (by decide +kernel)) ggX2_setByte_X2_isByte
set_option maxRecDepth 20000 in
theorem ggX2_setByte_X2_asked_ : GoodIn wsX2_setByte wsX2_asked_ := goodIn_r _ [20, 21, 22, 23, 24, 25, 26, 27, 28, 29, 30, 31] (by decide +kernel) (by decide +kernel)
set_option maxRecDepth 20000 in
theorem gX2_setByte_X2_asked_ : GoodIn wsX2_setByte (wsV RX2 61 RX2 yX2_asked_ wsX2_asked_) := goodIn_app (goodIn_of _ (by decide +kernel)) ggX2_setByte_X2_asked_
theorem dX2_setByte_0 : decode cX2_setByte 0 = .ok (.aload_n 0, 1) := by decide +kernel
theorem dX2_setByte_1 : decode cX2_setByte 1 = .ok (.aload_n 0, 1) := by decide +kernel
theorem dX2_setByte_2 : decode cX2_setByte 2 = .ok (.iload_n 1, 1) := by decide +kernel
theorem dX2_setByte_3 : decode cX2_setByte 3 = .ok (.iload_n 2, 1) := by decide +kernel
theorem dX2_setByte_4 : decode cX2_setByte 4 = .ok (.invokevirtual 97, 3) := by decide +kernel
theorem dX2_setByte_7 : decode cX2_setByte 7 = .ok (.iload_n 3, 1) := by decide +kernel
theorem dX2_setByte_8 : decode cX2_setByte 8 = .ok (.invokestatic 90, 3) := by decide +kernel
theorem dX2_setByte_11 : decode cX2_setByte 11 = .ok (.invokevirtual 61, 3) := by decide +kernel
theorem dX2_setByte_14 : decode cX2_setByte 14 = .ok (.ifCond .ne 5, 3) := by decide +kernel
theorem dX2_setByte_17 : decode cX2_setByte 17 = .ok (.iconst 0, 1) := by decide +kernel
theorem dX2_setByte_18 : decode cX2_setByte 18 = .ok (.ireturn, 1) := by decide +kernel
theorem dX2_setByte_19 : decode cX2_setByte 19 = .ok (.aload_n 0, 1) := by decide +kernel
theorem dX2_setByte_20 : decode cX2_setByte 20 = .ok (.getfield 29, 3) := by decide +kernel
theorem dX2_setByte_23 : decode cX2_setByte 23 = .ok (.sipush 256, 3) := by decide +kernel
theorem dX2_setByte_26 : decode cX2_setByte 26 = .ok (.iload_n 1, 1) := by decide +kernel
theorem dX2_setByte_27 : decode cX2_setByte 27 = .ok (.imul, 1) := by decide +kernel
theorem dX2_setByte_28 : decode cX2_setByte 28 = .ok (.iload_n 2, 1) := by decide +kernel
theorem dX2_setByte_29 : decode cX2_setByte 29 = .ok (.iadd, 1) := by decide +kernel
theorem dX2_setByte_30 : decode cX2_setByte 30 = .ok (.iaload, 1) := by decide +kernel
theorem dX2_setByte_31 : decode cX2_setByte 31 = .ok (.istore 4, 2) := by decide +kernel
theorem dX2_setByte_33 : decode cX2_setByte 33 = .ok (.aload_n 0, 1) := by decide +kernel
theorem dX2_setByte_34 : decode cX2_setByte 34 = .ok (.getfield 29, 3) := by decide +kernel
theorem dX2_setByte_37 : decode cX2_setByte 37 = .ok (.sipush 256, 3) := by decide +kernel
theorem dX2_setByte_40 : decode cX2_setByte 40 = .ok (.iload_n 1, 1) := by decide +kernel
theorem dX2_setByte_41 : decode cX2_setByte 41 = .ok (.imul, 1) := by decide +kernel
theorem dX2_setByte_42 : decode cX2_setByte 42 = .ok (.iload_n 2, 1) := by decide +kernel
theorem dX2_setByte_43 : decode cX2_setByte 43 = .ok (.iadd, 1) := by decide +kernel
theorem dX2_setByte_44 : decode cX2_setByte 44 = .ok (.iload_n 3, 1) := by decide +kernel
theorem dX2_setByte_45 : decode cX2_setByte 45 = .ok (.iastore, 1) := by decide +kernel
theorem dX2_setByte_46 : decode cX2_setByte 46 = .ok (.iload 4, 2) := by decide +kernel
theorem dX2_setByte_48 : decode cX2_setByte 48 = .ok (.ireturn, 1) := by decide +kernel
set_option maxRecDepth 20000 in
theorem ggX2_truncate_X2_isRow : GoodIn wsX2_truncate wsX2_isRow := goodIn_r _ [5, 6, 7, 4, 8] (by decide +kernel) (by decide +kernel)
set_option maxRecDepth 20000 in
theorem gX2_truncate_X2_isRow : GoodIn wsX2_truncate (va_wsS RX2 87 yX2_isRow wsX2_isRow) := goodIn_app (goodIn_of _ (by decide +kernel)) ggX2_truncate_X2_isRow
set_option maxRecDepth 20000 in
theorem ggX2_truncate_X2_in : GoodIn wsX2_truncate wsX2_in := goodIn_r _ [8] (by decide +kernel) (by decide +kernel)
set_option maxRecDepth 20000 in
theorem gX2_truncate_X2_in : GoodIn wsX2_truncate (va_wsS RX2 42 yX2_in wsX2_in) := goodIn_app (goodIn_of _ (by decide +kernel)) ggX2_truncate_X2_in
set_option maxRecDepth 20000 in
theorem ggX2_truncate_X2_asked_ : GoodIn wsX2_truncate wsX2_asked_ := goodIn_r _ [12, 13, 14, 15, 16, 17, 18, 19, 20, 21, 22, 23] (by decide +kernel) (by decide +kernel)
set_option maxRecDepth 20000 in
theorem gX2_truncate_X2_asked_ : GoodIn wsX2_truncate (wsV RX2 61 RX2 yX2_asked_ wsX2_asked_) := goodIn_app (goodIn_of _ (by decide +kernel)) ggX2_truncate_X2_asked_
theorem dX2_truncate_0 : decode cX2_truncate 0 = .ok (.iload_n 1, 1) := by decide +kernel
theorem dX2_truncate_1 : decode cX2_truncate 1 = .ok (.invokestatic 87, 3) := by decide +kernel
theorem dX2_truncate_4 : decode cX2_truncate 4 = .ok (.istore_n 3, 1) := by decide +kernel
theorem dX2_truncate_5 : decode cX2_truncate 5 = .ok (.aload_n 0, 1) := by decide +kernel
theorem dX2_truncate_6 : decode cX2_truncate 6 = .ok (.iload_n 3, 1) := by decide +kernel
theorem dX2_truncate_7 : decode cX2_truncate 7 = .ok (.iload_n 3, 1) := by decide +kernel
theorem dX2_truncate_8 : decode cX2_truncate 8 = .ok (.ifCond .eq 21, 3) := by decide +kernel
theorem dX2_truncate_11 : decode cX2_truncate 11 = .ok (.iload_n 2, 1) := by decide +kernel
theorem dX2_truncate_12 : decode cX2_truncate 12 = .ok (.iconst 0, 1) := by decide +kernel
theorem dX2_truncate_13 : decode cX2_truncate 13 = .ok (.aload_n 0, 1) := by decide +kernel
theorem dX2_truncate_14 : decode cX2_truncate 14 = .ok (.getfield 32, 3) := by decide +kernel
theorem dX2_truncate_17 : decode cX2_truncate 17 = .ok (.iload_n 1, 1) := by decide +kernel
theorem dX2_truncate_18 : decode cX2_truncate 18 = .ok (.iaload, 1) := by decide +kernel
theorem dX2_truncate_19 : decode cX2_truncate 19 = .ok (.invokestatic 42, 3) := by decide +kernel
theorem dX2_truncate_22 : decode cX2_truncate 22 = .ok (.ifCond .eq 7, 3) := by decide +kernel
theorem dX2_truncate_25 : decode cX2_truncate 25 = .ok (.iconst 1, 1) := by decide +kernel
theorem dX2_truncate_26 : decode cX2_truncate 26 = .ok (.goto 4, 3) := by decide +kernel
theorem dX2_truncate_29 : decode cX2_truncate 29 = .ok (.iconst 0, 1) := by decide +kernel
theorem dX2_truncate_30 : decode cX2_truncate 30 = .ok (.invokevirtual 61, 3) := by decide +kernel
theorem dX2_truncate_33 : decode cX2_truncate 33 = .ok (.ifCond .ne 5, 3) := by decide +kernel
theorem dX2_truncate_36 : decode cX2_truncate 36 = .ok (.iconst 0, 1) := by decide +kernel
theorem dX2_truncate_37 : decode cX2_truncate 37 = .ok (.ireturn, 1) := by decide +kernel
theorem dX2_truncate_38 : decode cX2_truncate 38 = .ok (.aload_n 0, 1) := by decide +kernel
theorem dX2_truncate_39 : decode cX2_truncate 39 = .ok (.getfield 32, 3) := by decide +kernel
theorem dX2_truncate_42 : decode cX2_truncate 42 = .ok (.iload_n 1, 1) := by decide +kernel
theorem dX2_truncate_43 : decode cX2_truncate 43 = .ok (.iaload, 1) := by decide +kernel
theorem dX2_truncate_44 : decode cX2_truncate 44 = .ok (.iload_n 2, 1) := by decide +kernel
theorem dX2_truncate_45 : decode cX2_truncate 45 = .ok (.isub, 1) := by decide +kernel
theorem dX2_truncate_46 : decode cX2_truncate 46 = .ok (.istore 4, 2) := by decide +kernel
theorem dX2_truncate_48 : decode cX2_truncate 48 = .ok (.aload_n 0, 1) := by decide +kernel
theorem dX2_truncate_49 : decode cX2_truncate 49 = .ok (.getfield 32, 3) := by decide +kernel
theorem dX2_truncate_52 : decode cX2_truncate 52 = .ok (.iload_n 1, 1) := by decide +kernel
theorem dX2_truncate_53 : decode cX2_truncate 53 = .ok (.iload_n 2, 1) := by decide +kernel
theorem dX2_truncate_54 : decode cX2_truncate 54 = .ok (.iastore, 1) := by decide +kernel
theorem dX2_truncate_55 : decode cX2_truncate 55 = .ok (.iload 4, 2) := by decide +kernel
theorem dX2_truncate_57 : decode cX2_truncate 57 = .ok (.ireturn, 1) := by decide +kernel
set_option maxRecDepth 20000 in
theorem ggX2_length_X2_isRow : GoodIn wsX2_length wsX2_isRow := goodIn_r _ [5, 6, 7, 4, 8] (by decide +kernel) (by decide +kernel)
set_option maxRecDepth 20000 in
theorem gX2_length_X2_isRow : GoodIn wsX2_length (va_wsS RX2 87 yX2_isRow wsX2_isRow) := goodIn_app (goodIn_of _ (by decide +kernel)) ggX2_length_X2_isRow
set_option maxRecDepth 20000 in
theorem ggX2_length_X2_asked : GoodIn wsX2_length wsX2_asked := goodIn_r _ [12, 13, 14, 15, 16, 17, 18, 19, 20, 21, 22, 23] (by decide +kernel) (by decide +kernel)
set_option maxRecDepth 20000 in
theorem gX2_length_X2_asked : GoodIn wsX2_length (wsV RX2 69 RX2 yX2_asked wsX2_asked) := goodIn_app (goodIn_of _ (by decide +kernel)) ggX2_length_X2_asked
theorem dX2_length_0 : decode cX2_length 0 = .ok (.aload_n 0, 1) := by decide +kernel
theorem dX2_length_1 : decode cX2_length 1 = .ok (.iload_n 1, 1) := by decide +kernel
theorem dX2_length_2 : decode cX2_length 2 = .ok (.invokestatic 87, 3) := by decide +kernel
theorem dX2_length_5 : decode cX2_length 5 = .ok (.invokevirtual 69, 3) := by decide +kernel
theorem dX2_length_8 : decode cX2_length 8 = .ok (.ifCond .eq 12, 3) := by decide +kernel
theorem dX2_length_11 : decode cX2_length 11 = .ok (.aload_n 0, 1) := by decide +kernel
theorem dX2_length_12 : decode cX2_length 12 = .ok (.getfield 32, 3) := by decide +kernel
theorem dX2_length_15 : decode cX2_length 15 = .ok (.iload_n 1, 1) := by decide +kernel
theorem dX2_length_16 : decode cX2_length 16 = .ok (.iaload, 1) := by decide +kernel
theorem dX2_length_17 : decode cX2_length 17 = .ok (.goto 4, 3) := by decide +kernel
theorem dX2_length_20 : decode cX2_length 20 = .ok (.iconst 0, 1) := by decide +kernel
theorem dX2_length_21 : decode cX2_length 21 = .ok (.ireturn, 1) := by decide +kernel
set_option maxRecDepth 20000 in
theorem ggX2_byteAt_X2_isPlace : GoodIn wsX2_byteAt wsX2_isPlace := goodIn_r _ [6, 7, 8, 9, 5, 10, 11, 12, 13, 19, 20, 21, 22, 23, 24, 25, 26, 27, 28] (by decide +kernel) (by decide +kernel)
set_option maxRecDepth 20000 in
theorem gX2_byteAt_X2_isPlace : GoodIn wsX2_byteAt (wsV RX2 97 RX2 yX2_isPlace wsX2_isPlace) := goodIn_app (goodIn_of _ (by decide +kernel)) ggX2_byteAt_X2_isPlace
set_option maxRecDepth 20000 in
theorem ggX2_byteAt_X2_asked : GoodIn wsX2_byteAt wsX2_asked := goodIn_r _ [17, 18, 19, 20, 21, 22, 23, 24, 25, 26, 27, 28] (by decide +kernel) (by decide +kernel)
set_option maxRecDepth 20000 in
theorem gX2_byteAt_X2_asked : GoodIn wsX2_byteAt (wsV RX2 69 RX2 yX2_asked wsX2_asked) := goodIn_app (goodIn_of _ (by decide +kernel)) ggX2_byteAt_X2_asked
theorem dX2_byteAt_0 : decode cX2_byteAt 0 = .ok (.aload_n 0, 1) := by decide +kernel
theorem dX2_byteAt_1 : decode cX2_byteAt 1 = .ok (.aload_n 0, 1) := by decide +kernel
theorem dX2_byteAt_2 : decode cX2_byteAt 2 = .ok (.iload_n 1, 1) := by decide +kernel
theorem dX2_byteAt_3 : decode cX2_byteAt 3 = .ok (.iload_n 2, 1) := by decide +kernel
theorem dX2_byteAt_4 : decode cX2_byteAt 4 = .ok (.invokevirtual 97, 3) := by decide +kernel
theorem dX2_byteAt_7 : decode cX2_byteAt 7 = .ok (.invokevirtual 69, 3) := by decide +kernel
theorem dX2_byteAt_10 : decode cX2_byteAt 10 = .ok (.ifCond .eq 18, 3) := by decide +kernel
theorem dX2_byteAt_13 : decode cX2_byteAt 13 = .ok (.aload_n 0, 1) := by decide +kernel
theorem dX2_byteAt_14 : decode cX2_byteAt 14 = .ok (.getfield 29, 3) := by decide +kernel
theorem dX2_byteAt_17 : decode cX2_byteAt 17 = .ok (.sipush 256, 3) := by decide +kernel
theorem dX2_byteAt_20 : decode cX2_byteAt 20 = .ok (.iload_n 1, 1) := by decide +kernel
theorem dX2_byteAt_21 : decode cX2_byteAt 21 = .ok (.imul, 1) := by decide +kernel
theorem dX2_byteAt_22 : decode cX2_byteAt 22 = .ok (.iload_n 2, 1) := by decide +kernel
theorem dX2_byteAt_23 : decode cX2_byteAt 23 = .ok (.iadd, 1) := by decide +kernel
theorem dX2_byteAt_24 : decode cX2_byteAt 24 = .ok (.iaload, 1) := by decide +kernel
theorem dX2_byteAt_25 : decode cX2_byteAt 25 = .ok (.goto 4, 3) := by decide +kernel
theorem dX2_byteAt_28 : decode cX2_byteAt 28 = .ok (.iconst 0, 1) := by decide +kernel
theorem dX2_byteAt_29 : decode cX2_byteAt 29 = .ok (.ireturn, 1) := by decide +kernel
set_option maxRecDepth 20000 in
theorem ggX2_part_X2_takes : GoodIn wsX2_part wsX2_takes := goodIn_r _ [7, 8, 9, 10, 11, 12, 6, 13, 14, 24, 25, 26, 27, 28, 29, 30, 31, 32, 33] (by decide +kernel) (by decide +kernel)
set_option maxRecDepth 20000 in
theorem gX2_part_X2_takes : GoodIn wsX2_part (wsV RX2 72 RX2 yX2_takes wsX2_takes) := goodIn_app (goodIn_of _ (by decide +kernel)) ggX2_part_X2_takes
set_option maxRecDepth 20000 in
theorem ggX2_part_X2_sumOf : GoodIn wsX2_part wsX2_sumOf := goodIn_r _ [18, 19, 9, 20, 21, 22, 6, 23, 24, 25, 26, 27, 28, 29, 30, 31, 32, 33] (by decide +kernel) (by decide +kernel)
set_option maxRecDepth 20000 in
theorem gX2_part_X2_sumOf : GoodIn wsX2_part (wsV RX2 76 RX2 yX2_sumOf wsX2_sumOf) := goodIn_app (goodIn_of _ (by decide +kernel)) ggX2_part_X2_sumOf
theorem dX2_part_0 : decode cX2_part 0 = .ok (.aload_n 0, 1) := by decide +kernel
theorem dX2_part_1 : decode cX2_part 1 = .ok (.getfield 16, 3) := by decide +kernel
theorem dX2_part_4 : decode cX2_part 4 = .ok (.iload_n 1, 1) := by decide +kernel
theorem dX2_part_5 : decode cX2_part 5 = .ok (.iaload, 1) := by decide +kernel
theorem dX2_part_6 : decode cX2_part 6 = .ok (.istore 5, 2) := by decide +kernel
theorem dX2_part_8 : decode cX2_part 8 = .ok (.iload_n 3, 1) := by decide +kernel
theorem dX2_part_9 : decode cX2_part 9 = .ok (.istore 6, 2) := by decide +kernel
theorem dX2_part_11 : decode cX2_part 11 = .ok (.iload 6, 2) := by decide +kernel
theorem dX2_part_13 : decode cX2_part 13 = .ok (.iload 4, 2) := by decide +kernel
theorem dX2_part_15 : decode cX2_part 15 = .ok (.if_icmp .ge 31, 3) := by decide +kernel
theorem dX2_part_18 : decode cX2_part 18 = .ok (.aload_n 0, 1) := by decide +kernel
theorem dX2_part_19 : decode cX2_part 19 = .ok (.iload_n 1, 1) := by decide +kernel
theorem dX2_part_20 : decode cX2_part 20 = .ok (.iload 5, 2) := by decide +kernel
theorem dX2_part_22 : decode cX2_part 22 = .ok (.aload_n 0, 1) := by decide +kernel
theorem dX2_part_23 : decode cX2_part 23 = .ok (.getfield 29, 3) := by decide +kernel
theorem dX2_part_26 : decode cX2_part 26 = .ok (.sipush 256, 3) := by decide +kernel
theorem dX2_part_29 : decode cX2_part 29 = .ok (.iload_n 2, 1) := by decide +kernel
theorem dX2_part_30 : decode cX2_part 30 = .ok (.imul, 1) := by decide +kernel
theorem dX2_part_31 : decode cX2_part 31 = .ok (.iload 6, 2) := by decide +kernel
theorem dX2_part_33 : decode cX2_part 33 = .ok (.iadd, 1) := by decide +kernel
theorem dX2_part_34 : decode cX2_part 34 = .ok (.iaload, 1) := by decide +kernel
theorem dX2_part_35 : decode cX2_part 35 = .ok (.invokevirtual 72, 3) := by decide +kernel
theorem dX2_part_38 : decode cX2_part 38 = .ok (.istore 5, 2) := by decide +kernel
theorem dX2_part_40 : decode cX2_part 40 = .ok (.iinc 6 1, 3) := by decide +kernel
theorem dX2_part_43 : decode cX2_part 43 = .ok (.goto (-32), 3) := by decide +kernel
theorem dX2_part_46 : decode cX2_part 46 = .ok (.aload_n 0, 1) := by decide +kernel
theorem dX2_part_47 : decode cX2_part 47 = .ok (.iload_n 1, 1) := by decide +kernel
theorem dX2_part_48 : decode cX2_part 48 = .ok (.iload 5, 2) := by decide +kernel
theorem dX2_part_50 : decode cX2_part 50 = .ok (.invokevirtual 76, 3) := by decide +kernel
theorem dX2_part_53 : decode cX2_part 53 = .ok (.ireturn, 1) := by decide +kernel
set_option maxRecDepth 20000 in
theorem ggX2_sum_X2_isModel : GoodIn wsX2_sum wsX2_isModel := goodIn_r _ [6, 7, 8, 9, 5, 10, 45, 46, 47, 48, 49, 50, 51, 52, 53, 54] (by decide +kernel) (by decide +kernel)
set_option maxRecDepth 20000 in
theorem gX2_sum_X2_isModel : GoodIn wsX2_sum (wsV RX2 65 RX2 yX2_isModel wsX2_isModel) := goodIn_app (goodIn_of _ (by decide +kernel)) ggX2_sum_X2_isModel
set_option maxRecDepth 20000 in
theorem ggX2_sum_X2_isRow : GoodIn wsX2_sum wsX2_isRow := goodIn_r _ [13, 8, 9, 5, 10] (by decide +kernel) (by decide +kernel)
set_option maxRecDepth 20000 in
theorem gX2_sum_X2_isRow : GoodIn wsX2_sum (va_wsS RX2 87 yX2_isRow wsX2_isRow) := goodIn_app (goodIn_of _ (by decide +kernel)) ggX2_sum_X2_isRow
set_option maxRecDepth 20000 in
theorem ggX2_sum_X2_asked : GoodIn wsX2_sum wsX2_asked := goodIn_r _ [17, 18, 45, 46, 47, 48, 49, 50, 51, 52, 53, 54] (by decide +kernel) (by decide +kernel)
set_option maxRecDepth 20000 in
theorem gX2_sum_X2_asked : GoodIn wsX2_sum (wsV RX2 69 RX2 yX2_asked wsX2_asked) := goodIn_app (goodIn_of _ (by decide +kernel)) ggX2_sum_X2_asked
set_option maxRecDepth 20000 in
theorem ggX2_sum_X2_part : GoodIn wsX2_sum wsX2_part := goodIn_r _ [22, 23, 24, 25, 26, 27, 5, 28, 29, 30, 31, 32, 33, 34, 35, 36, 37, 38, 39, 40, 41, 42, 43, 44, 45, 46, 47, 48, 49, 50, 51, 52, 53, 54] (by decide +kernel) (by decide +kernel)
set_option maxRecDepth 20000 in
theorem gX2_sum_X2_part : GoodIn wsX2_sum (wsV RX2 100 RX2 yX2_part wsX2_part) := goodIn_app (goodIn_of _ (by decide +kernel)) ggX2_sum_X2_part
theorem dX2_sum_0 : decode cX2_sum 0 = .ok (.aload_n 0, 1) := by decide +kernel
theorem dX2_sum_1 : decode cX2_sum 1 = .ok (.aload_n 0, 1) := by decide +kernel
theorem dX2_sum_2 : decode cX2_sum 2 = .ok (.iload_n 1, 1) := by decide +kernel
theorem dX2_sum_3 : decode cX2_sum 3 = .ok (.invokevirtual 65, 3) := by decide +kernel
theorem dX2_sum_6 : decode cX2_sum 6 = .ok (.ifCond .eq 14, 3) := by decide +kernel
theorem dX2_sum_9 : decode cX2_sum 9 = .ok (.iload_n 2, 1) := by decide +kernel
theorem dX2_sum_10 : decode cX2_sum 10 = .ok (.invokestatic 87, 3) := by decide +kernel
theorem dX2_sum_13 : decode cX2_sum 13 = .ok (.ifCond .eq 7, 3) := by decide +kernel
theorem dX2_sum_16 : decode cX2_sum 16 = .ok (.iconst 1, 1) := by decide +kernel
theorem dX2_sum_17 : decode cX2_sum 17 = .ok (.goto 4, 3) := by decide +kernel
theorem dX2_sum_20 : decode cX2_sum 20 = .ok (.iconst 0, 1) := by decide +kernel
theorem dX2_sum_21 : decode cX2_sum 21 = .ok (.invokevirtual 69, 3) := by decide +kernel
theorem dX2_sum_24 : decode cX2_sum 24 = .ok (.ifCond .eq 19, 3) := by decide +kernel
theorem dX2_sum_27 : decode cX2_sum 27 = .ok (.aload_n 0, 1) := by decide +kernel
theorem dX2_sum_28 : decode cX2_sum 28 = .ok (.iload_n 1, 1) := by decide +kernel
theorem dX2_sum_29 : decode cX2_sum 29 = .ok (.iload_n 2, 1) := by decide +kernel
theorem dX2_sum_30 : decode cX2_sum 30 = .ok (.iconst 0, 1) := by decide +kernel
theorem dX2_sum_31 : decode cX2_sum 31 = .ok (.aload_n 0, 1) := by decide +kernel
theorem dX2_sum_32 : decode cX2_sum 32 = .ok (.getfield 32, 3) := by decide +kernel
theorem dX2_sum_35 : decode cX2_sum 35 = .ok (.iload_n 2, 1) := by decide +kernel
theorem dX2_sum_36 : decode cX2_sum 36 = .ok (.iaload, 1) := by decide +kernel
theorem dX2_sum_37 : decode cX2_sum 37 = .ok (.invokevirtual 100, 3) := by decide +kernel
theorem dX2_sum_40 : decode cX2_sum 40 = .ok (.goto 4, 3) := by decide +kernel
theorem dX2_sum_43 : decode cX2_sum 43 = .ok (.iconst 0, 1) := by decide +kernel
theorem dX2_sum_44 : decode cX2_sum 44 = .ok (.ireturn, 1) := by decide +kernel
set_option maxRecDepth 20000 in
theorem ggX2_sumOfPart_X2_isModel : GoodIn wsX2_sumOfPart wsX2_isModel := goodIn_r _ [6, 7, 8, 9, 5, 10, 45, 46, 47, 48, 49, 50, 51, 52, 53, 54] (by decide +kernel) (by decide +kernel)
set_option maxRecDepth 20000 in
theorem gX2_sumOfPart_X2_isModel : GoodIn wsX2_sumOfPart (wsV RX2 65 RX2 yX2_isModel wsX2_isModel) := goodIn_app (goodIn_of _ (by decide +kernel)) ggX2_sumOfPart_X2_isModel
set_option maxRecDepth 20000 in
theorem ggX2_sumOfPart_X2_isRow : GoodIn wsX2_sumOfPart wsX2_isRow := goodIn_r _ [13, 8, 9, 5, 10] (by decide +kernel) (by decide +kernel)
set_option maxRecDepth 20000 in
theorem gX2_sumOfPart_X2_isRow : GoodIn wsX2_sumOfPart (va_wsS RX2 87 yX2_isRow wsX2_isRow) := goodIn_app (goodIn_of _ (by decide +kernel)) ggX2_sumOfPart_X2_isRow
set_option maxRecDepth 20000 in
theorem ggX2_sumOfPart_X2_in : GoodIn wsX2_sumOfPart wsX2_in := goodIn_r _ [10] (by decide +kernel) (by decide +kernel)
set_option maxRecDepth 20000 in
theorem gX2_sumOfPart_X2_in : GoodIn wsX2_sumOfPart (va_wsS RX2 42 yX2_in wsX2_in) := goodIn_app (goodIn_of _ (by decide +kernel)) ggX2_sumOfPart_X2_in
set_option maxRecDepth 20000 in
theorem ggX2_sumOfPart_X2_asked : GoodIn wsX2_sumOfPart wsX2_asked := goodIn_r _ [17, 18, 45, 46, 47, 48, 49, 50, 51, 52, 53, 54] (by decide +kernel) (by decide +kernel)
set_option maxRecDepth 20000 in
theorem gX2_sumOfPart_X2_asked : GoodIn wsX2_sumOfPart (wsV RX2 69 RX2 yX2_asked wsX2_asked) := goodIn_app (goodIn_of _ (by decide +kernel)) ggX2_sumOfPart_X2_asked
set_option maxRecDepth 20000 in
theorem ggX2_sumOfPart_X2_part : GoodIn wsX2_sumOfPart wsX2_part := goodIn_r _ [22, 23, 24, 25, 26, 27, 5, 28, 29, 30, 31, 32, 33, 34, 35, 36, 37, 38, 39, 40, 41, 42, 43, 44, 45, 46, 47, 48, 49, 50, 51, 52, 53, 54] (by decide +kernel) (by decide +kernel)
set_option maxRecDepth 20000 in
theorem gX2_sumOfPart_X2_part : GoodIn wsX2_sumOfPart (wsV RX2 100 RX2 yX2_part wsX2_part) := goodIn_app (goodIn_of _ (by decide +kernel)) ggX2_sumOfPart_X2_part
theorem dX2_sumOfPart_0 : decode cX2_sumOfPart 0 = .ok (.aload_n 0, 1) := by decide +kernel
theorem dX2_sumOfPart_1 : decode cX2_sumOfPart 1 = .ok (.iload_n 1, 1) := by decide +kernel
theorem dX2_sumOfPart_2 : decode cX2_sumOfPart 2 = .ok (.invokevirtual 65, 3) := by decide +kernel
theorem dX2_sumOfPart_5 : decode cX2_sumOfPart 5 = .ok (.ifCond .eq 43, 3) := by decide +kernel
theorem dX2_sumOfPart_8 : decode cX2_sumOfPart 8 = .ok (.iload_n 2, 1) := by decide +kernel
theorem dX2_sumOfPart_9 : decode cX2_sumOfPart 9 = .ok (.invokestatic 87, 3) := by decide +kernel
theorem dX2_sumOfPart_12 : decode cX2_sumOfPart 12 = .ok (.ifCond .eq 36, 3) := by decide +kernel
theorem dX2_sumOfPart_15 : decode cX2_sumOfPart 15 = .ok (.iload_n 3, 1) := by decide +kernel
theorem dX2_sumOfPart_16 : decode cX2_sumOfPart 16 = .ok (.iconst 0, 1) := by decide +kernel
theorem dX2_sumOfPart_17 : decode cX2_sumOfPart 17 = .ok (.aload_n 0, 1) := by decide +kernel
theorem dX2_sumOfPart_18 : decode cX2_sumOfPart 18 = .ok (.getfield 32, 3) := by decide +kernel
theorem dX2_sumOfPart_21 : decode cX2_sumOfPart 21 = .ok (.iload_n 2, 1) := by decide +kernel
theorem dX2_sumOfPart_22 : decode cX2_sumOfPart 22 = .ok (.iaload, 1) := by decide +kernel
theorem dX2_sumOfPart_23 : decode cX2_sumOfPart 23 = .ok (.invokestatic 42, 3) := by decide +kernel
theorem dX2_sumOfPart_26 : decode cX2_sumOfPart 26 = .ok (.ifCond .eq 22, 3) := by decide +kernel
theorem dX2_sumOfPart_29 : decode cX2_sumOfPart 29 = .ok (.iload 4, 2) := by decide +kernel
theorem dX2_sumOfPart_31 : decode cX2_sumOfPart 31 = .ok (.iload_n 3, 1) := by decide +kernel
theorem dX2_sumOfPart_32 : decode cX2_sumOfPart 32 = .ok (.aload_n 0, 1) := by decide +kernel
theorem dX2_sumOfPart_33 : decode cX2_sumOfPart 33 = .ok (.getfield 32, 3) := by decide +kernel
theorem dX2_sumOfPart_36 : decode cX2_sumOfPart 36 = .ok (.iload_n 2, 1) := by decide +kernel
theorem dX2_sumOfPart_37 : decode cX2_sumOfPart 37 = .ok (.iaload, 1) := by decide +kernel
theorem dX2_sumOfPart_38 : decode cX2_sumOfPart 38 = .ok (.invokestatic 42, 3) := by decide +kernel
theorem dX2_sumOfPart_41 : decode cX2_sumOfPart 41 = .ok (.ifCond .eq 7, 3) := by decide +kernel
theorem dX2_sumOfPart_44 : decode cX2_sumOfPart 44 = .ok (.iconst 1, 1) := by decide +kernel
theorem dX2_sumOfPart_45 : decode cX2_sumOfPart 45 = .ok (.goto 4, 3) := by decide +kernel
theorem dX2_sumOfPart_48 : decode cX2_sumOfPart 48 = .ok (.iconst 0, 1) := by decide +kernel
theorem dX2_sumOfPart_49 : decode cX2_sumOfPart 49 = .ok (.istore 5, 2) := by decide +kernel
theorem dX2_sumOfPart_51 : decode cX2_sumOfPart 51 = .ok (.aload_n 0, 1) := by decide +kernel
theorem dX2_sumOfPart_52 : decode cX2_sumOfPart 52 = .ok (.iload 5, 2) := by decide +kernel
theorem dX2_sumOfPart_54 : decode cX2_sumOfPart 54 = .ok (.invokevirtual 69, 3) := by decide +kernel
theorem dX2_sumOfPart_57 : decode cX2_sumOfPart 57 = .ok (.ifCond .eq 15, 3) := by decide +kernel
theorem dX2_sumOfPart_60 : decode cX2_sumOfPart 60 = .ok (.aload_n 0, 1) := by decide +kernel
theorem dX2_sumOfPart_61 : decode cX2_sumOfPart 61 = .ok (.iload_n 1, 1) := by decide +kernel
theorem dX2_sumOfPart_62 : decode cX2_sumOfPart 62 = .ok (.iload_n 2, 1) := by decide +kernel
theorem dX2_sumOfPart_63 : decode cX2_sumOfPart 63 = .ok (.iload_n 3, 1) := by decide +kernel
theorem dX2_sumOfPart_64 : decode cX2_sumOfPart 64 = .ok (.iload 4, 2) := by decide +kernel
theorem dX2_sumOfPart_66 : decode cX2_sumOfPart 66 = .ok (.invokevirtual 100, 3) := by decide +kernel
theorem dX2_sumOfPart_69 : decode cX2_sumOfPart 69 = .ok (.goto 4, 3) := by decide +kernel
theorem dX2_sumOfPart_72 : decode cX2_sumOfPart 72 = .ok (.iconst 0, 1) := by decide +kernel
theorem dX2_sumOfPart_73 : decode cX2_sumOfPart 73 = .ok (.ireturn, 1) := by decide +kernel
set_option maxRecDepth 20000 in
theorem ggX2_remainder_X2_isModel : GoodIn wsX2_remainder wsX2_isModel := goodIn_r _ [7, 8, 9, 10, 6, 11, 26, 27, 28, 29, 30, 31, 32, 33, 34, 35] (by decide +kernel) (by decide +kernel)
set_option maxRecDepth 20000 in
theorem gX2_remainder_X2_isModel : GoodIn wsX2_remainder (wsV RX2 65 RX2 yX2_isModel wsX2_isModel) := goodIn_app (goodIn_of _ (by decide +kernel)) ggX2_remainder_X2_isModel
set_option maxRecDepth 20000 in
theorem ggX2_remainder_X2_isRow : GoodIn wsX2_remainder wsX2_isRow := goodIn_r _ [14, 9, 10, 6, 11] (by decide +kernel) (by decide +kernel)
set_option maxRecDepth 20000 in
theorem gX2_remainder_X2_isRow : GoodIn wsX2_remainder (va_wsS RX2 87 yX2_isRow wsX2_isRow) := goodIn_app (goodIn_of _ (by decide +kernel)) ggX2_remainder_X2_isRow
set_option maxRecDepth 20000 in
theorem ggX2_remainder_X2_asked : GoodIn wsX2_remainder wsX2_asked := goodIn_r _ [18, 19, 26, 27, 28, 29, 30, 31, 32, 33, 34, 35] (by decide +kernel) (by decide +kernel)
set_option maxRecDepth 20000 in
theorem gX2_remainder_X2_asked : GoodIn wsX2_remainder (wsV RX2 69 RX2 yX2_asked wsX2_asked) := goodIn_app (goodIn_of _ (by decide +kernel)) ggX2_remainder_X2_asked
set_option maxRecDepth 20000 in
theorem ggX2_remainder_X2_timesX : GoodIn wsX2_remainder wsX2_timesX := goodIn_r _ [23, 24, 25, 26, 27, 28, 29, 30, 31, 32, 33, 34, 35] (by decide +kernel) (by decide +kernel)
set_option maxRecDepth 20000 in
theorem gX2_remainder_X2_timesX : GoodIn wsX2_remainder (wsV RX2 50 RX2 yX2_timesX wsX2_timesX) := goodIn_app (goodIn_of _ (by decide +kernel)) ggX2_remainder_X2_timesX
theorem dX2_remainder_0 : decode cX2_remainder 0 = .ok (.iconst 0, 1) := by decide +kernel
theorem dX2_remainder_1 : decode cX2_remainder 1 = .ok (.istore_n 3, 1) := by decide +kernel
theorem dX2_remainder_2 : decode cX2_remainder 2 = .ok (.aload_n 0, 1) := by decide +kernel
theorem dX2_remainder_3 : decode cX2_remainder 3 = .ok (.aload_n 0, 1) := by decide +kernel
theorem dX2_remainder_4 : decode cX2_remainder 4 = .ok (.iload_n 1, 1) := by decide +kernel
theorem dX2_remainder_5 : decode cX2_remainder 5 = .ok (.invokevirtual 65, 3) := by decide +kernel
theorem dX2_remainder_8 : decode cX2_remainder 8 = .ok (.ifCond .eq 14, 3) := by decide +kernel
theorem dX2_remainder_11 : decode cX2_remainder 11 = .ok (.iload_n 2, 1) := by decide +kernel
theorem dX2_remainder_12 : decode cX2_remainder 12 = .ok (.invokestatic 87, 3) := by decide +kernel
theorem dX2_remainder_15 : decode cX2_remainder 15 = .ok (.ifCond .eq 7, 3) := by decide +kernel
theorem dX2_remainder_18 : decode cX2_remainder 18 = .ok (.iconst 1, 1) := by decide +kernel
theorem dX2_remainder_19 : decode cX2_remainder 19 = .ok (.goto 4, 3) := by decide +kernel
theorem dX2_remainder_22 : decode cX2_remainder 22 = .ok (.iconst 0, 1) := by decide +kernel
theorem dX2_remainder_23 : decode cX2_remainder 23 = .ok (.invokevirtual 69, 3) := by decide +kernel
theorem dX2_remainder_26 : decode cX2_remainder 26 = .ok (.istore 4, 2) := by decide +kernel
theorem dX2_remainder_28 : decode cX2_remainder 28 = .ok (.iconst 0, 1) := by decide +kernel
theorem dX2_remainder_29 : decode cX2_remainder 29 = .ok (.istore 5, 2) := by decide +kernel
theorem dX2_remainder_31 : decode cX2_remainder 31 = .ok (.iload 4, 2) := by decide +kernel
theorem dX2_remainder_33 : decode cX2_remainder 33 = .ok (.ifCond .eq 58, 3) := by decide +kernel
theorem dX2_remainder_36 : decode cX2_remainder 36 = .ok (.iload 5, 2) := by decide +kernel
theorem dX2_remainder_38 : decode cX2_remainder 38 = .ok (.bipush 8, 2) := by decide +kernel
theorem dX2_remainder_40 : decode cX2_remainder 40 = .ok (.aload_n 0, 1) := by decide +kernel
theorem dX2_remainder_41 : decode cX2_remainder 41 = .ok (.getfield 32, 3) := by decide +kernel
theorem dX2_remainder_44 : decode cX2_remainder 44 = .ok (.iload_n 2, 1) := by decide +kernel
theorem dX2_remainder_45 : decode cX2_remainder 45 = .ok (.iaload, 1) := by decide +kernel
theorem dX2_remainder_46 : decode cX2_remainder 46 = .ok (.imul, 1) := by decide +kernel
theorem dX2_remainder_47 : decode cX2_remainder 47 = .ok (.if_icmp .ge 44, 3) := by decide +kernel
theorem dX2_remainder_50 : decode cX2_remainder 50 = .ok (.aload_n 0, 1) := by decide +kernel
theorem dX2_remainder_51 : decode cX2_remainder 51 = .ok (.iload_n 1, 1) := by decide +kernel
theorem dX2_remainder_52 : decode cX2_remainder 52 = .ok (.iload_n 3, 1) := by decide +kernel
theorem dX2_remainder_53 : decode cX2_remainder 53 = .ok (.invokevirtual 50, 3) := by decide +kernel
theorem dX2_remainder_56 : decode cX2_remainder 56 = .ok (.aload_n 0, 1) := by decide +kernel
theorem dX2_remainder_57 : decode cX2_remainder 57 = .ok (.getfield 29, 3) := by decide +kernel
theorem dX2_remainder_60 : decode cX2_remainder 60 = .ok (.sipush 256, 3) := by decide +kernel
theorem dX2_remainder_63 : decode cX2_remainder 63 = .ok (.iload_n 2, 1) := by decide +kernel
theorem dX2_remainder_64 : decode cX2_remainder 64 = .ok (.imul, 1) := by decide +kernel
theorem dX2_remainder_65 : decode cX2_remainder 65 = .ok (.iload 5, 2) := by decide +kernel
theorem dX2_remainder_67 : decode cX2_remainder 67 = .ok (.bipush 8, 2) := by decide +kernel
theorem dX2_remainder_69 : decode cX2_remainder 69 = .ok (.idiv, 1) := by decide +kernel
theorem dX2_remainder_70 : decode cX2_remainder 70 = .ok (.iadd, 1) := by decide +kernel
theorem dX2_remainder_71 : decode cX2_remainder 71 = .ok (.iaload, 1) := by decide +kernel
theorem dX2_remainder_72 : decode cX2_remainder 72 = .ok (.bipush 7, 2) := by decide +kernel
theorem dX2_remainder_74 : decode cX2_remainder 74 = .ok (.iload 5, 2) := by decide +kernel
theorem dX2_remainder_76 : decode cX2_remainder 76 = .ok (.bipush 8, 2) := by decide +kernel
theorem dX2_remainder_78 : decode cX2_remainder 78 = .ok (.irem, 1) := by decide +kernel
theorem dX2_remainder_79 : decode cX2_remainder 79 = .ok (.isub, 1) := by decide +kernel
theorem dX2_remainder_80 : decode cX2_remainder 80 = .ok (.ishr, 1) := by decide +kernel
theorem dX2_remainder_81 : decode cX2_remainder 81 = .ok (.iconst 1, 1) := by decide +kernel
theorem dX2_remainder_82 : decode cX2_remainder 82 = .ok (.iand, 1) := by decide +kernel
theorem dX2_remainder_83 : decode cX2_remainder 83 = .ok (.ixor, 1) := by decide +kernel
theorem dX2_remainder_84 : decode cX2_remainder 84 = .ok (.istore_n 3, 1) := by decide +kernel
theorem dX2_remainder_85 : decode cX2_remainder 85 = .ok (.iinc 5 1, 3) := by decide +kernel
theorem dX2_remainder_88 : decode cX2_remainder 88 = .ok (.goto (-57), 3) := by decide +kernel
theorem dX2_remainder_91 : decode cX2_remainder 91 = .ok (.iload_n 3, 1) := by decide +kernel
theorem dX2_remainder_92 : decode cX2_remainder 92 = .ok (.ireturn, 1) := by decide +kernel
set_option maxRecDepth 20000 in
theorem ggX2_joined_X2_isModel : GoodIn wsX2_joined wsX2_isModel := goodIn_r _ [8, 9, 10, 11, 7, 12, 51, 52, 53, 54, 55, 56, 57, 58, 59, 60] (by decide +kernel) (by decide +kernel)
set_option maxRecDepth 20000 in
theorem gX2_joined_X2_isModel : GoodIn wsX2_joined (wsV RX2 65 RX2 yX2_isModel wsX2_isModel) := goodIn_app (goodIn_of _ (by decide +kernel)) ggX2_joined_X2_isModel
set_option maxRecDepth 20000 in
theorem ggX2_joined_X2_isNumber : GoodIn wsX2_joined wsX2_isNumber := goodIn_r _ [16, 3, 17, 18, 7, 19, 51, 52, 53, 54, 55, 56, 57, 58, 59, 60] (by decide +kernel) (by decide +kernel)
set_option maxRecDepth 20000 in
theorem gX2_joined_X2_isNumber : GoodIn wsX2_joined (wsV RX2 79 RX2 yX2_isNumber wsX2_isNumber) := goodIn_app (goodIn_of _ (by decide +kernel)) ggX2_joined_X2_isNumber
set_option maxRecDepth 20000 in
theorem ggX2_joined_X2_asked_ : GoodIn wsX2_joined wsX2_asked_ := goodIn_r _ [23, 24, 51, 52, 53, 54, 55, 56, 57, 58, 59, 60] (by decide +kernel) (by decide +kernel)
set_option maxRecDepth 20000 in
theorem gX2_joined_X2_asked_ : GoodIn wsX2_joined (wsV RX2 61 RX2 yX2_asked_ wsX2_asked_) := goodIn_app (goodIn_of _ (by decide +kernel)) ggX2_joined_X2_asked_
set_option maxRecDepth 20000 in
theorem ggX2_joined_X2_registerOf : GoodIn wsX2_joined wsX2_registerOf := goodIn_r _ [28, 29, 30, 3, 31, 32, 7, 33, 51, 52, 53, 54, 55, 56, 57, 58, 59, 60] (by decide +kernel) (by decide +kernel)
set_option maxRecDepth 20000 in
theorem gX2_joined_X2_registerOf : GoodIn wsX2_joined (wsV RX2 103 RX2 yX2_registerOf wsX2_registerOf) := goodIn_app (goodIn_of _ (by decide +kernel)) ggX2_joined_X2_registerOf
set_option maxRecDepth 20000 in
theorem ggX2_joined_X2_powerOf : GoodIn wsX2_joined wsX2_powerOf := goodIn_r _ [37, 3, 38, 39, 40, 7, 41, 42, 43, 44, 45, 46, 51, 52, 53, 54, 55, 56, 57, 58, 59, 60] (by decide +kernel) (by decide +kernel)
set_option maxRecDepth 20000 in
theorem gX2_joined_X2_powerOf : GoodIn wsX2_joined (wsV RX2 82 RX2 yX2_powerOf wsX2_powerOf) := goodIn_app (goodIn_of _ (by decide +kernel)) ggX2_joined_X2_powerOf
set_option maxRecDepth 20000 in
theorem ggX2_joined_X2_times : GoodIn wsX2_joined wsX2_times := goodIn_r _ [41, 42, 43, 44, 7, 45, 3, 46, 51, 52, 53, 54, 55, 56, 57, 58, 59, 60] (by decide +kernel) (by decide +kernel)
set_option maxRecDepth 20000 in
theorem gX2_joined_X2_times : GoodIn wsX2_joined (wsV RX2 54 RX2 yX2_times wsX2_times) := goodIn_app (goodIn_of _ (by decide +kernel)) ggX2_joined_X2_times
set_option maxRecDepth 20000 in
theorem ggX2_joined_X2_sumOf : GoodIn wsX2_joined wsX2_sumOf := goodIn_r _ [50, 30, 3, 29, 31, 32, 7, 33, 51, 52, 53, 54, 55, 56, 57, 58, 59, 60] (by decide +kernel) (by decide +kernel)
set_option maxRecDepth 20000 in
theorem gX2_joined_X2_sumOf : GoodIn wsX2_joined (wsV RX2 76 RX2 yX2_sumOf wsX2_sumOf) := goodIn_app (goodIn_of _ (by decide +kernel)) ggX2_joined_X2_sumOf
