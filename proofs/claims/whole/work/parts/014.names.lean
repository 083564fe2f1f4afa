theorem dX2_init_44 : decode cX2_init 44 = .ok (.newarray .int, 2) := by decide +kernel
theorem dX2_init_46 : decode cX2_init 46 = .ok (.putfield 25, 3) := by decide +kernel
theorem dX2_init_49 : decode cX2_init 49 = .ok (.aload_n 0, 1) := by decide +kernel
theorem dX2_init_50 : decode cX2_init 50 = .ok (.bipush 120, 2) := by decide +kernel
theorem dX2_init_52 : decode cX2_init 52 = .ok (.newarray .int, 2) := by decide +kernel
theorem dX2_init_54 : decode cX2_init 54 = .ok (.putfield 28, 3) := by decide +kernel
theorem dX2_init_57 : decode cX2_init 57 = .ok (.aload_n 0, 1) := by decide +kernel
theorem dX2_init_58 : decode cX2_init 58 = .ok (.bipush 120, 2) := by decide +kernel
theorem dX2_init_60 : decode cX2_init 60 = .ok (.newarray .int, 2) := by decide +kernel
theorem dX2_init_62 : decode cX2_init 62 = .ok (.putfield 31, 3) := by decide +kernel
theorem dX2_init_65 : decode cX2_init 65 = .ok (.aload_n 0, 1) := by decide +kernel
theorem dX2_init_66 : decode cX2_init 66 = .ok (.sipush 192, 3) := by decide +kernel
theorem dX2_init_69 : decode cX2_init 69 = .ok (.newarray .int, 2) := by decide +kernel
theorem dX2_init_71 : decode cX2_init 71 = .ok (.putfield 34, 3) := by decide +kernel
theorem dX2_init_74 : decode cX2_init 74 = .ok (.aload_n 0, 1) := by decide +kernel
theorem dX2_init_75 : decode cX2_init 75 = .ok (.sipush 4225, 3) := by decide +kernel
theorem dX2_init_78 : decode cX2_init 78 = .ok (.newarray .int, 2) := by decide +kernel
theorem dX2_init_80 : decode cX2_init 80 = .ok (.putfield 37, 3) := by decide +kernel
theorem dX2_init_83 : decode cX2_init 83 = .ok (.aload_n 0, 1) := by decide +kernel
theorem dX2_init_84 : decode cX2_init 84 = .ok (.iconst (-1), 1) := by decide +kernel
theorem dX2_init_85 : decode cX2_init 85 = .ok (.putfield 40, 3) := by decide +kernel
theorem dX2_init_88 : decode cX2_init 88 = .ok (.aload_n 0, 1) := by decide +kernel
theorem dX2_init_89 : decode cX2_init 89 = .ok (.sipush 195, 3) := by decide +kernel
theorem dX2_init_92 : decode cX2_init 92 = .ok (.newarray .int, 2) := by decide +kernel
theorem dX2_init_94 : decode cX2_init 94 = .ok (.putfield 44, 3) := by decide +kernel
theorem dX2_init_97 : decode cX2_init 97 = .ok (.iconst 0, 1) := by decide +kernel
theorem dX2_init_98 : decode cX2_init 98 = .ok (.istore_n 1, 1) := by decide +kernel
theorem dX2_init_99 : decode cX2_init 99 = .ok (.iload_n 1, 1) := by decide +kernel
theorem dX2_init_100 : decode cX2_init 100 = .ok (.iconst 3, 1) := by decide +kernel
theorem dX2_init_101 : decode cX2_init 101 = .ok (.if_icmp .ge 17, 3) := by decide +kernel
theorem dX2_init_104 : decode cX2_init 104 = .ok (.aload_n 0, 1) := by decide +kernel
theorem dX2_init_105 : decode cX2_init 105 = .ok (.getfield 16, 3) := by decide +kernel
theorem dX2_init_108 : decode cX2_init 108 = .ok (.iload_n 1, 1) := by decide +kernel
theorem dX2_init_109 : decode cX2_init 109 = .ok (.bipush 40, 2) := by decide +kernel
theorem dX2_init_111 : decode cX2_init 111 = .ok (.iastore, 1) := by decide +kernel
theorem dX2_init_112 : decode cX2_init 112 = .ok (.iinc 1 1, 3) := by decide +kernel
theorem dX2_init_115 : decode cX2_init 115 = .ok (.goto (-16), 3) := by decide +kernel
theorem dX2_init_118 : decode cX2_init 118 = .ok (.return_, 1) := by decide +kernel
theorem dX2_isIn_0 : decode cX2_isIn 0 = .ok (.iload_n 0, 1) := by decide +kernel
theorem dX2_isIn_1 : decode cX2_isIn 1 = .ok (.iload_n 1, 1) := by decide +kernel
theorem dX2_isIn_2 : decode cX2_isIn 2 = .ok (.if_icmp .lt 12, 3) := by decide +kernel
theorem dX2_isIn_5 : decode cX2_isIn 5 = .ok (.iload_n 0, 1) := by decide +kernel
theorem dX2_isIn_6 : decode cX2_isIn 6 = .ok (.iload_n 2, 1) := by decide +kernel
theorem dX2_isIn_7 : decode cX2_isIn 7 = .ok (.if_icmp .gt 7, 3) := by decide +kernel
theorem dX2_isIn_10 : decode cX2_isIn 10 = .ok (.iconst 1, 1) := by decide +kernel
theorem dX2_isIn_11 : decode cX2_isIn 11 = .ok (.goto 4, 3) := by decide +kernel
theorem dX2_isIn_14 : decode cX2_isIn 14 = .ok (.iconst 0, 1) := by decide +kernel
theorem dX2_isIn_15 : decode cX2_isIn 15 = .ok (.ireturn, 1) := by decide +kernel
set_option maxRecDepth 20000 in
theorem ggX2_isTable_X2_isIn : GoodIn wsX2_isTable wsX2_isIn := goodIn_r _ [4] (by decide +kernel) (by decide +kernel)
set_option maxRecDepth 20000 in
theorem gX2_isTable_X2_isIn : GoodIn wsX2_isTable (va_wsS RX2 47 yX2_isIn wsX2_isIn) := goodIn_app (goodIn_of _ (by decide +kernel)) ggX2_isTable_X2_isIn
theorem dX2_isTable_0 : decode cX2_isTable 0 = .ok (.iload_n 0, 1) := by decide +kernel
theorem dX2_isTable_1 : decode cX2_isTable 1 = .ok (.iconst 0, 1) := by decide +kernel
theorem dX2_isTable_2 : decode cX2_isTable 2 = .ok (.iconst 2, 1) := by decide +kernel
theorem dX2_isTable_3 : decode cX2_isTable 3 = .ok (.invokestatic 47, 3) := by decide +kernel
theorem dX2_isTable_6 : decode cX2_isTable 6 = .ok (.ireturn, 1) := by decide +kernel
theorem dX2_isSpan_0 : decode cX2_isSpan 0 = .ok (.iload_n 0, 1) := by decide +kernel
theorem dX2_isSpan_1 : decode cX2_isSpan 1 = .ok (.ifCond .lt 18, 3) := by decide +kernel
theorem dX2_isSpan_4 : decode cX2_isSpan 4 = .ok (.iload_n 0, 1) := by decide +kernel
theorem dX2_isSpan_5 : decode cX2_isSpan 5 = .ok (.iload_n 1, 1) := by decide +kernel
theorem dX2_isSpan_6 : decode cX2_isSpan 6 = .ok (.if_icmp .gt 13, 3) := by decide +kernel
theorem dX2_isSpan_9 : decode cX2_isSpan 9 = .ok (.iload_n 1, 1) := by decide +kernel
theorem dX2_isSpan_10 : decode cX2_isSpan 10 = .ok (.bipush 64, 2) := by decide +kernel
theorem dX2_isSpan_12 : decode cX2_isSpan 12 = .ok (.if_icmp .gt 7, 3) := by decide +kernel
theorem dX2_isSpan_15 : decode cX2_isSpan 15 = .ok (.iconst 1, 1) := by decide +kernel
theorem dX2_isSpan_16 : decode cX2_isSpan 16 = .ok (.goto 4, 3) := by decide +kernel
theorem dX2_isSpan_19 : decode cX2_isSpan 19 = .ok (.iconst 0, 1) := by decide +kernel
theorem dX2_isSpan_20 : decode cX2_isSpan 20 = .ok (.ireturn, 1) := by decide +kernel
set_option maxRecDepth 20000 in
theorem ggX2_rows_X2_isTable : GoodIn wsX2_rows wsX2_isTable := goodIn_r _ [8, 9, 10, 7, 11] (by decide +kernel) (by decide +kernel)
set_option maxRecDepth 20000 in
theorem gX2_rows_X2_isTable : GoodIn wsX2_rows (va_wsS RX2 51 yX2_isTable wsX2_isTable) := goodIn_app (goodIn_of _ (by decide +kernel)) ggX2_rows_X2_isTable
set_option maxRecDepth 20000 in
theorem ggX2_rows_X2_isIn : GoodIn wsX2_rows wsX2_isIn := goodIn_r _ [11] (by decide +kernel) (by decide +kernel)
set_option maxRecDepth 20000 in
theorem gX2_rows_X2_isIn : GoodIn wsX2_rows (va_wsS RX2 47 yX2_isIn wsX2_isIn) := goodIn_app (goodIn_of _ (by decide +kernel)) ggX2_rows_X2_isIn
theorem dX2_rows_0 : decode cX2_rows 0 = .ok (.iload_n 1, 1) := by decide +kernel
theorem dX2_rows_1 : decode cX2_rows 1 = .ok (.invokestatic 51, 3) := by decide +kernel
theorem dX2_rows_4 : decode cX2_rows 4 = .ok (.ifCond .eq 13, 3) := by decide +kernel
theorem dX2_rows_7 : decode cX2_rows 7 = .ok (.iload_n 2, 1) := by decide +kernel
theorem dX2_rows_8 : decode cX2_rows 8 = .ok (.iconst 0, 1) := by decide +kernel
theorem dX2_rows_9 : decode cX2_rows 9 = .ok (.ldc 55, 2) := by decide +kernel
theorem dX2_rows_11 : decode cX2_rows 11 = .ok (.invokestatic 47, 3) := by decide +kernel
theorem dX2_rows_14 : decode cX2_rows 14 = .ok (.ifCond .ne 5, 3) := by decide +kernel
theorem dX2_rows_17 : decode cX2_rows 17 = .ok (.iconst 0, 1) := by decide +kernel
theorem dX2_rows_18 : decode cX2_rows 18 = .ok (.ireturn, 1) := by decide +kernel
theorem dX2_rows_19 : decode cX2_rows 19 = .ok (.aload_n 0, 1) := by decide +kernel
theorem dX2_rows_20 : decode cX2_rows 20 = .ok (.iconst (-1), 1) := by decide +kernel
theorem dX2_rows_21 : decode cX2_rows 21 = .ok (.putfield 40, 3) := by decide +kernel
theorem dX2_rows_24 : decode cX2_rows 24 = .ok (.aload_n 0, 1) := by decide +kernel
theorem dX2_rows_25 : decode cX2_rows 25 = .ok (.getfield 7, 3) := by decide +kernel
theorem dX2_rows_28 : decode cX2_rows 28 = .ok (.iload_n 1, 1) := by decide +kernel
theorem dX2_rows_29 : decode cX2_rows 29 = .ok (.iload_n 2, 1) := by decide +kernel
theorem dX2_rows_30 : decode cX2_rows 30 = .ok (.iastore, 1) := by decide +kernel
theorem dX2_rows_31 : decode cX2_rows 31 = .ok (.aload_n 0, 1) := by decide +kernel
theorem dX2_rows_32 : decode cX2_rows 32 = .ok (.getfield 13, 3) := by decide +kernel
theorem dX2_rows_35 : decode cX2_rows 35 = .ok (.iload_n 1, 1) := by decide +kernel
theorem dX2_rows_36 : decode cX2_rows 36 = .ok (.iconst 0, 1) := by decide +kernel
theorem dX2_rows_37 : decode cX2_rows 37 = .ok (.iastore, 1) := by decide +kernel
theorem dX2_rows_38 : decode cX2_rows 38 = .ok (.iconst 1, 1) := by decide +kernel
theorem dX2_rows_39 : decode cX2_rows 39 = .ok (.ireturn, 1) := by decide +kernel
set_option maxRecDepth 20000 in
theorem ggX2_put_X2_isTable : GoodIn wsX2_put wsX2_isTable := goodIn_r _ [14, 15, 16, 13, 17] (by decide +kernel) (by decide +kernel)
set_option maxRecDepth 20000 in
theorem gX2_put_X2_isTable : GoodIn wsX2_put (va_wsS RX2 51 yX2_isTable wsX2_isTable) := goodIn_app (goodIn_of _ (by decide +kernel)) ggX2_put_X2_isTable
set_option maxRecDepth 20000 in
theorem ggX2_put_X2_isIn : GoodIn wsX2_put wsX2_isIn := goodIn_r _ [17] (by decide +kernel) (by decide +kernel)
set_option maxRecDepth 20000 in
theorem gX2_put_X2_isIn : GoodIn wsX2_put (va_wsS RX2 47 yX2_isIn wsX2_isIn) := goodIn_app (goodIn_of _ (by decide +kernel)) ggX2_put_X2_isIn
theorem dX2_put_0 : decode cX2_put 0 = .ok (.iload_n 1, 1) := by decide +kernel
theorem dX2_put_1 : decode cX2_put 1 = .ok (.invokestatic 51, 3) := by decide +kernel
theorem dX2_put_4 : decode cX2_put 4 = .ok (.ifCond .eq 20, 3) := by decide +kernel
theorem dX2_put_7 : decode cX2_put 7 = .ok (.iload_n 2, 1) := by decide +kernel
theorem dX2_put_8 : decode cX2_put 8 = .ok (.iconst 1, 1) := by decide +kernel
theorem dX2_put_9 : decode cX2_put 9 = .ok (.ldc 55, 2) := by decide +kernel
theorem dX2_put_11 : decode cX2_put 11 = .ok (.aload_n 0, 1) := by decide +kernel
theorem dX2_put_12 : decode cX2_put 12 = .ok (.getfield 7, 3) := by decide +kernel
theorem dX2_put_15 : decode cX2_put 15 = .ok (.iload_n 1, 1) := by decide +kernel
theorem dX2_put_16 : decode cX2_put 16 = .ok (.iaload, 1) := by decide +kernel
theorem dX2_put_17 : decode cX2_put 17 = .ok (.isub, 1) := by decide +kernel
theorem dX2_put_18 : decode cX2_put 18 = .ok (.invokestatic 47, 3) := by decide +kernel
theorem dX2_put_21 : decode cX2_put 21 = .ok (.ifCond .ne 5, 3) := by decide +kernel
theorem dX2_put_24 : decode cX2_put 24 = .ok (.iconst (-1), 1) := by decide +kernel
theorem dX2_put_25 : decode cX2_put 25 = .ok (.ireturn, 1) := by decide +kernel
theorem dX2_put_26 : decode cX2_put 26 = .ok (.aload_n 0, 1) := by decide +kernel
theorem dX2_put_27 : decode cX2_put 27 = .ok (.iconst (-1), 1) := by decide +kernel
theorem dX2_put_28 : decode cX2_put 28 = .ok (.putfield 40, 3) := by decide +kernel
theorem dX2_put_31 : decode cX2_put 31 = .ok (.aload_n 0, 1) := by decide +kernel
theorem dX2_put_32 : decode cX2_put 32 = .ok (.getfield 7, 3) := by decide +kernel
theorem dX2_put_35 : decode cX2_put 35 = .ok (.iload_n 1, 1) := by decide +kernel
theorem dX2_put_36 : decode cX2_put 36 = .ok (.dup2, 1) := by decide +kernel
theorem dX2_put_37 : decode cX2_put 37 = .ok (.iaload, 1) := by decide +kernel
theorem dX2_put_38 : decode cX2_put 38 = .ok (.iload_n 2, 1) := by decide +kernel
theorem dX2_put_39 : decode cX2_put 39 = .ok (.iadd, 1) := by decide +kernel
theorem dX2_put_40 : decode cX2_put 40 = .ok (.iastore, 1) := by decide +kernel
theorem dX2_put_41 : decode cX2_put 41 = .ok (.bipush 40, 2) := by decide +kernel
theorem dX2_put_43 : decode cX2_put 43 = .ok (.iload_n 1, 1) := by decide +kernel
theorem dX2_put_44 : decode cX2_put 44 = .ok (.imul, 1) := by decide +kernel
theorem dX2_put_45 : decode cX2_put 45 = .ok (.istore_n 3, 1) := by decide +kernel
theorem dX2_put_46 : decode cX2_put 46 = .ok (.iload_n 3, 1) := by decide +kernel
theorem dX2_put_47 : decode cX2_put 47 = .ok (.bipush 40, 2) := by decide +kernel
theorem dX2_put_49 : decode cX2_put 49 = .ok (.iload_n 1, 1) := by decide +kernel
theorem dX2_put_50 : decode cX2_put 50 = .ok (.imul, 1) := by decide +kernel
theorem dX2_put_51 : decode cX2_put 51 = .ok (.aload_n 0, 1) := by decide +kernel
theorem dX2_put_52 : decode cX2_put 52 = .ok (.getfield 13, 3) := by decide +kernel
theorem dX2_put_55 : decode cX2_put 55 = .ok (.iload_n 1, 1) := by decide +kernel
theorem dX2_put_56 : decode cX2_put 56 = .ok (.iaload, 1) := by decide +kernel
theorem dX2_put_57 : decode cX2_put 57 = .ok (.iadd, 1) := by decide +kernel
theorem dX2_put_58 : decode cX2_put 58 = .ok (.if_icmp .ge 39, 3) := by decide +kernel
theorem dX2_put_61 : decode cX2_put 61 = .ok (.aload_n 0, 1) := by decide +kernel
theorem dX2_put_62 : decode cX2_put 62 = .ok (.getfield 28, 3) := by decide +kernel
theorem dX2_put_65 : decode cX2_put 65 = .ok (.iload_n 3, 1) := by decide +kernel
theorem dX2_put_66 : decode cX2_put 66 = .ok (.iaload, 1) := by decide +kernel
theorem dX2_put_67 : decode cX2_put 67 = .ok (.ldc 56, 2) := by decide +kernel
theorem dX2_put_69 : decode cX2_put 69 = .ok (.if_icmp .eq 22, 3) := by decide +kernel
theorem dX2_put_72 : decode cX2_put 72 = .ok (.aload_n 0, 1) := by decide +kernel
theorem dX2_put_73 : decode cX2_put 73 = .ok (.getfield 28, 3) := by decide +kernel
theorem dX2_put_76 : decode cX2_put 76 = .ok (.iload_n 3, 1) := by decide +kernel
theorem dX2_put_77 : decode cX2_put 77 = .ok (.ldc 55, 2) := by decide +kernel
theorem dX2_put_79 : decode cX2_put 79 = .ok (.aload_n 0, 1) := by decide +kernel
theorem dX2_put_80 : decode cX2_put 80 = .ok (.getfield 28, 3) := by decide +kernel
theorem dX2_put_83 : decode cX2_put 83 = .ok (.iload_n 3, 1) := by decide +kernel
theorem dX2_put_84 : decode cX2_put 84 = .ok (.iaload, 1) := by decide +kernel
theorem dX2_put_85 : decode cX2_put 85 = .ok (.iload_n 2, 1) := by decide +kernel
theorem dX2_put_86 : decode cX2_put 86 = .ok (.iadd, 1) := by decide +kernel
theorem dX2_put_87 : decode cX2_put 87 = .ok (.invokestatic 57, 3) := by decide +kernel
theorem dX2_put_90 : decode cX2_put 90 = .ok (.iastore, 1) := by decide +kernel
theorem dX2_put_91 : decode cX2_put 91 = .ok (.iinc 3 1, 3) := by decide +kernel
theorem dX2_put_94 : decode cX2_put 94 = .ok (.goto (-48), 3) := by decide +kernel
theorem dX2_put_97 : decode cX2_put 97 = .ok (.aload_n 0, 1) := by decide +kernel
theorem dX2_put_98 : decode cX2_put 98 = .ok (.getfield 7, 3) := by decide +kernel
theorem dX2_put_101 : decode cX2_put 101 = .ok (.iload_n 1, 1) := by decide +kernel
theorem dX2_put_102 : decode cX2_put 102 = .ok (.iaload, 1) := by decide +kernel
theorem dX2_put_103 : decode cX2_put 103 = .ok (.ireturn, 1) := by decide +kernel
set_option maxRecDepth 20000 in
theorem ggX2_strike_X2_isTable : GoodIn wsX2_strike wsX2_isTable := goodIn_r _ [12, 13, 14, 11, 15] (by decide +kernel) (by decide +kernel)
set_option maxRecDepth 20000 in
theorem gX2_strike_X2_isTable : GoodIn wsX2_strike (va_wsS RX2 51 yX2_isTable wsX2_isTable) := goodIn_app (goodIn_of _ (by decide +kernel)) ggX2_strike_X2_isTable
set_option maxRecDepth 20000 in
theorem ggX2_strike_X2_isIn : GoodIn wsX2_strike wsX2_isIn := goodIn_r _ [15] (by decide +kernel) (by decide +kernel)
set_option maxRecDepth 20000 in
theorem gX2_strike_X2_isIn : GoodIn wsX2_strike (va_wsS RX2 47 yX2_isIn wsX2_isIn) := goodIn_app (goodIn_of _ (by decide +kernel)) ggX2_strike_X2_isIn
theorem dX2_strike_0 : decode cX2_strike 0 = .ok (.iload_n 1, 1) := by decide +kernel
theorem dX2_strike_1 : decode cX2_strike 1 = .ok (.invokestatic 51, 3) := by decide +kernel
theorem dX2_strike_4 : decode cX2_strike 4 = .ok (.ifCond .eq 17, 3) := by decide +kernel
theorem dX2_strike_7 : decode cX2_strike 7 = .ok (.iload_n 2, 1) := by decide +kernel
theorem dX2_strike_8 : decode cX2_strike 8 = .ok (.iconst 1, 1) := by decide +kernel
theorem dX2_strike_9 : decode cX2_strike 9 = .ok (.aload_n 0, 1) := by decide +kernel
theorem dX2_strike_10 : decode cX2_strike 10 = .ok (.getfield 7, 3) := by decide +kernel
theorem dX2_strike_13 : decode cX2_strike 13 = .ok (.iload_n 1, 1) := by decide +kernel
theorem dX2_strike_14 : decode cX2_strike 14 = .ok (.iaload, 1) := by decide +kernel
theorem dX2_strike_15 : decode cX2_strike 15 = .ok (.invokestatic 47, 3) := by decide +kernel
theorem dX2_strike_18 : decode cX2_strike 18 = .ok (.ifCond .ne 5, 3) := by decide +kernel
theorem dX2_strike_21 : decode cX2_strike 21 = .ok (.iconst (-1), 1) := by decide +kernel
theorem dX2_strike_22 : decode cX2_strike 22 = .ok (.ireturn, 1) := by decide +kernel
theorem dX2_strike_23 : decode cX2_strike 23 = .ok (.aload_n 0, 1) := by decide +kernel
theorem dX2_strike_24 : decode cX2_strike 24 = .ok (.iconst (-1), 1) := by decide +kernel
theorem dX2_strike_25 : decode cX2_strike 25 = .ok (.putfield 40, 3) := by decide +kernel
theorem dX2_strike_28 : decode cX2_strike 28 = .ok (.aload_n 0, 1) := by decide +kernel
theorem dX2_strike_29 : decode cX2_strike 29 = .ok (.getfield 7, 3) := by decide +kernel
theorem dX2_strike_32 : decode cX2_strike 32 = .ok (.iload_n 1, 1) := by decide +kernel
theorem dX2_strike_33 : decode cX2_strike 33 = .ok (.dup2, 1) := by decide +kernel
theorem dX2_strike_34 : decode cX2_strike 34 = .ok (.iaload, 1) := by decide +kernel
theorem dX2_strike_35 : decode cX2_strike 35 = .ok (.iload_n 2, 1) := by decide +kernel
theorem dX2_strike_36 : decode cX2_strike 36 = .ok (.isub, 1) := by decide +kernel
theorem dX2_strike_37 : decode cX2_strike 37 = .ok (.iastore, 1) := by decide +kernel
theorem dX2_strike_38 : decode cX2_strike 38 = .ok (.bipush 40, 2) := by decide +kernel
theorem dX2_strike_40 : decode cX2_strike 40 = .ok (.iload_n 1, 1) := by decide +kernel
theorem dX2_strike_41 : decode cX2_strike 41 = .ok (.imul, 1) := by decide +kernel
theorem dX2_strike_42 : decode cX2_strike 42 = .ok (.istore_n 3, 1) := by decide +kernel
theorem dX2_strike_43 : decode cX2_strike 43 = .ok (.iload_n 3, 1) := by decide +kernel
theorem dX2_strike_44 : decode cX2_strike 44 = .ok (.bipush 40, 2) := by decide +kernel
theorem dX2_strike_46 : decode cX2_strike 46 = .ok (.iload_n 1, 1) := by decide +kernel
theorem dX2_strike_47 : decode cX2_strike 47 = .ok (.imul, 1) := by decide +kernel
theorem dX2_strike_48 : decode cX2_strike 48 = .ok (.aload_n 0, 1) := by decide +kernel
theorem dX2_strike_49 : decode cX2_strike 49 = .ok (.getfield 13, 3) := by decide +kernel
theorem dX2_strike_52 : decode cX2_strike 52 = .ok (.iload_n 1, 1) := by decide +kernel
theorem dX2_strike_53 : decode cX2_strike 53 = .ok (.iaload, 1) := by decide +kernel
theorem dX2_strike_54 : decode cX2_strike 54 = .ok (.iadd, 1) := by decide +kernel
theorem dX2_strike_55 : decode cX2_strike 55 = .ok (.if_icmp .ge 27, 3) := by decide +kernel
theorem dX2_strike_58 : decode cX2_strike 58 = .ok (.aload_n 0, 1) := by decide +kernel
theorem dX2_strike_59 : decode cX2_strike 59 = .ok (.getfield 25, 3) := by decide +kernel
theorem dX2_strike_62 : decode cX2_strike 62 = .ok (.iload_n 3, 1) := by decide +kernel
theorem dX2_strike_63 : decode cX2_strike 63 = .ok (.iconst 0, 1) := by decide +kernel
theorem dX2_strike_64 : decode cX2_strike 64 = .ok (.aload_n 0, 1) := by decide +kernel
theorem dX2_strike_65 : decode cX2_strike 65 = .ok (.getfield 25, 3) := by decide +kernel
theorem dX2_strike_68 : decode cX2_strike 68 = .ok (.iload_n 3, 1) := by decide +kernel
theorem dX2_strike_69 : decode cX2_strike 69 = .ok (.iaload, 1) := by decide +kernel
theorem dX2_strike_70 : decode cX2_strike 70 = .ok (.iload_n 2, 1) := by decide +kernel
theorem dX2_strike_71 : decode cX2_strike 71 = .ok (.isub, 1) := by decide +kernel
theorem dX2_strike_72 : decode cX2_strike 72 = .ok (.invokestatic 63, 3) := by decide +kernel
theorem dX2_strike_75 : decode cX2_strike 75 = .ok (.iastore, 1) := by decide +kernel
theorem dX2_strike_76 : decode cX2_strike 76 = .ok (.iinc 3 1, 3) := by decide +kernel
theorem dX2_strike_79 : decode cX2_strike 79 = .ok (.goto (-36), 3) := by decide +kernel
theorem dX2_strike_82 : decode cX2_strike 82 = .ok (.aload_n 0, 1) := by decide +kernel
theorem dX2_strike_83 : decode cX2_strike 83 = .ok (.getfield 7, 3) := by decide +kernel
theorem dX2_strike_86 : decode cX2_strike 86 = .ok (.iload_n 1, 1) := by decide +kernel
theorem dX2_strike_87 : decode cX2_strike 87 = .ok (.iaload, 1) := by decide +kernel
theorem dX2_strike_88 : decode cX2_strike 88 = .ok (.ireturn, 1) := by decide +kernel
set_option maxRecDepth 20000 in
theorem ggX2_sight_X2_isTable : GoodIn wsX2_sight wsX2_isTable := goodIn_r _ [12, 13, 14, 11, 15] (by decide +kernel) (by decide +kernel)
set_option maxRecDepth 20000 in
theorem gX2_sight_X2_isTable : GoodIn wsX2_sight (va_wsS RX2 51 yX2_isTable wsX2_isTable) := goodIn_app (goodIn_of _ (by decide +kernel)) ggX2_sight_X2_isTable
set_option maxRecDepth 20000 in
theorem ggX2_sight_X2_isSpan : GoodIn wsX2_sight wsX2_isSpan := goodIn_r _ [18] (by decide +kernel) (by decide +kernel)
set_option maxRecDepth 20000 in
theorem gX2_sight_X2_isSpan : GoodIn wsX2_sight (va_wsS RX2 66 yX2_isSpan wsX2_isSpan) := goodIn_app (goodIn_of _ (by decide +kernel)) ggX2_sight_X2_isSpan
set_option maxRecDepth 20000 in
theorem ggX2_sight_X2_isIn : GoodIn wsX2_sight wsX2_isIn := goodIn_r _ [15] (by decide +kernel) (by decide +kernel)
set_option maxRecDepth 20000 in
theorem gX2_sight_X2_isIn : GoodIn wsX2_sight (va_wsS RX2 47 yX2_isIn wsX2_isIn) := goodIn_app (goodIn_of _ (by decide +kernel)) ggX2_sight_X2_isIn
theorem dX2_sight_0 : decode cX2_sight 0 = .ok (.iload_n 1, 1) := by decide +kernel
theorem dX2_sight_1 : decode cX2_sight 1 = .ok (.invokestatic 51, 3) := by decide +kernel
theorem dX2_sight_4 : decode cX2_sight 4 = .ok (.ifCond .eq 37, 3) := by decide +kernel
theorem dX2_sight_7 : decode cX2_sight 7 = .ok (.iload_n 2, 1) := by decide +kernel
theorem dX2_sight_8 : decode cX2_sight 8 = .ok (.iload_n 3, 1) := by decide +kernel
theorem dX2_sight_9 : decode cX2_sight 9 = .ok (.invokestatic 66, 3) := by decide +kernel
theorem dX2_sight_12 : decode cX2_sight 12 = .ok (.ifCond .eq 29, 3) := by decide +kernel
theorem dX2_sight_15 : decode cX2_sight 15 = .ok (.iload 4, 2) := by decide +kernel
theorem dX2_sight_17 : decode cX2_sight 17 = .ok (.iconst 0, 1) := by decide +kernel
theorem dX2_sight_18 : decode cX2_sight 18 = .ok (.aload_n 0, 1) := by decide +kernel
theorem dX2_sight_19 : decode cX2_sight 19 = .ok (.getfield 7, 3) := by decide +kernel
theorem dX2_sight_22 : decode cX2_sight 22 = .ok (.iload_n 1, 1) := by decide +kernel
theorem dX2_sight_23 : decode cX2_sight 23 = .ok (.iaload, 1) := by decide +kernel
theorem dX2_sight_24 : decode cX2_sight 24 = .ok (.invokestatic 47, 3) := by decide +kernel
theorem dX2_sight_27 : decode cX2_sight 27 = .ok (.ifCond .eq 14, 3) := by decide +kernel
theorem dX2_sight_30 : decode cX2_sight 30 = .ok (.aload_n 0, 1) := by decide +kernel
theorem dX2_sight_31 : decode cX2_sight 31 = .ok (.getfield 13, 3) := by decide +kernel
theorem dX2_sight_34 : decode cX2_sight 34 = .ok (.iload_n 1, 1) := by decide +kernel
theorem dX2_sight_35 : decode cX2_sight 35 = .ok (.iaload, 1) := by decide +kernel
theorem dX2_sight_36 : decode cX2_sight 36 = .ok (.bipush 40, 2) := by decide +kernel
theorem dX2_sight_38 : decode cX2_sight 38 = .ok (.if_icmp .ne 5, 3) := by decide +kernel
theorem dX2_sight_41 : decode cX2_sight 41 = .ok (.iconst (-1), 1) := by decide +kernel
theorem dX2_sight_42 : decode cX2_sight 42 = .ok (.ireturn, 1) := by decide +kernel
theorem dX2_sight_43 : decode cX2_sight 43 = .ok (.bipush 40, 2) := by decide +kernel
theorem dX2_sight_45 : decode cX2_sight 45 = .ok (.iload_n 1, 1) := by decide +kernel
theorem dX2_sight_46 : decode cX2_sight 46 = .ok (.imul, 1) := by decide +kernel
theorem dX2_sight_47 : decode cX2_sight 47 = .ok (.aload_n 0, 1) := by decide +kernel
theorem dX2_sight_48 : decode cX2_sight 48 = .ok (.getfield 13, 3) := by decide +kernel
theorem dX2_sight_51 : decode cX2_sight 51 = .ok (.iload_n 1, 1) := by decide +kernel
theorem dX2_sight_52 : decode cX2_sight 52 = .ok (.iaload, 1) := by decide +kernel
theorem dX2_sight_53 : decode cX2_sight 53 = .ok (.iadd, 1) := by decide +kernel
theorem dX2_sight_54 : decode cX2_sight 54 = .ok (.istore 6, 2) := by decide +kernel
theorem dX2_sight_56 : decode cX2_sight 56 = .ok (.aload_n 0, 1) := by decide +kernel
theorem dX2_sight_57 : decode cX2_sight 57 = .ok (.getfield 19, 3) := by decide +kernel
theorem dX2_sight_60 : decode cX2_sight 60 = .ok (.iload 6, 2) := by decide +kernel
theorem dX2_sight_62 : decode cX2_sight 62 = .ok (.iload_n 2, 1) := by decide +kernel
theorem dX2_sight_63 : decode cX2_sight 63 = .ok (.iastore, 1) := by decide +kernel
theorem dX2_sight_64 : decode cX2_sight 64 = .ok (.aload_n 0, 1) := by decide +kernel
theorem dX2_sight_65 : decode cX2_sight 65 = .ok (.getfield 22, 3) := by decide +kernel
theorem dX2_sight_68 : decode cX2_sight 68 = .ok (.iload 6, 2) := by decide +kernel
theorem dX2_sight_70 : decode cX2_sight 70 = .ok (.iload_n 3, 1) := by decide +kernel
theorem dX2_sight_71 : decode cX2_sight 71 = .ok (.iastore, 1) := by decide +kernel
theorem dX2_sight_72 : decode cX2_sight 72 = .ok (.aload_n 0, 1) := by decide +kernel
theorem dX2_sight_73 : decode cX2_sight 73 = .ok (.getfield 25, 3) := by decide +kernel
theorem dX2_sight_76 : decode cX2_sight 76 = .ok (.iload 6, 2) := by decide +kernel
theorem dX2_sight_78 : decode cX2_sight 78 = .ok (.iload 4, 2) := by decide +kernel
theorem dX2_sight_80 : decode cX2_sight 80 = .ok (.iastore, 1) := by decide +kernel
theorem dX2_sight_81 : decode cX2_sight 81 = .ok (.aload_n 0, 1) := by decide +kernel
theorem dX2_sight_82 : decode cX2_sight 82 = .ok (.getfield 28, 3) := by decide +kernel
theorem dX2_sight_85 : decode cX2_sight 85 = .ok (.iload 6, 2) := by decide +kernel
theorem dX2_sight_87 : decode cX2_sight 87 = .ok (.iload 5, 2) := by decide +kernel
theorem dX2_sight_89 : decode cX2_sight 89 = .ok (.ifCond .eq 8, 3) := by decide +kernel
theorem dX2_sight_92 : decode cX2_sight 92 = .ok (.ldc 56, 2) := by decide +kernel
theorem dX2_sight_94 : decode cX2_sight 94 = .ok (.goto 5, 3) := by decide +kernel
theorem dX2_sight_97 : decode cX2_sight 97 = .ok (.iload 4, 2) := by decide +kernel
theorem dX2_sight_99 : decode cX2_sight 99 = .ok (.iastore, 1) := by decide +kernel
theorem dX2_sight_100 : decode cX2_sight 100 = .ok (.aload_n 0, 1) := by decide +kernel
theorem dX2_sight_101 : decode cX2_sight 101 = .ok (.getfield 13, 3) := by decide +kernel
theorem dX2_sight_104 : decode cX2_sight 104 = .ok (.iload_n 1, 1) := by decide +kernel
theorem dX2_sight_105 : decode cX2_sight 105 = .ok (.dup2, 1) := by decide +kernel
theorem dX2_sight_106 : decode cX2_sight 106 = .ok (.iaload, 1) := by decide +kernel
theorem dX2_sight_107 : decode cX2_sight 107 = .ok (.iconst 1, 1) := by decide +kernel
theorem dX2_sight_108 : decode cX2_sight 108 = .ok (.iadd, 1) := by decide +kernel
theorem dX2_sight_109 : decode cX2_sight 109 = .ok (.iastore, 1) := by decide +kernel
theorem dX2_sight_110 : decode cX2_sight 110 = .ok (.aload_n 0, 1) := by decide +kernel
theorem dX2_sight_111 : decode cX2_sight 111 = .ok (.iconst (-1), 1) := by decide +kernel
theorem dX2_sight_112 : decode cX2_sight 112 = .ok (.putfield 40, 3) := by decide +kernel
theorem dX2_sight_115 : decode cX2_sight 115 = .ok (.aload_n 0, 1) := by decide +kernel
theorem dX2_sight_116 : decode cX2_sight 116 = .ok (.getfield 13, 3) := by decide +kernel
theorem dX2_sight_119 : decode cX2_sight 119 = .ok (.iload_n 1, 1) := by decide +kernel
theorem dX2_sight_120 : decode cX2_sight 120 = .ok (.iaload, 1) := by decide +kernel
theorem dX2_sight_121 : decode cX2_sight 121 = .ok (.iconst 1, 1) := by decide +kernel
theorem dX2_sight_122 : decode cX2_sight 122 = .ok (.isub, 1) := by decide +kernel
theorem dX2_sight_123 : decode cX2_sight 123 = .ok (.ireturn, 1) := by decide +kernel
set_option maxRecDepth 20000 in
theorem ggX2_begins_X2_isIn : GoodIn wsX2_begins wsX2_isIn := goodIn_r _ [4] (by decide +kernel) (by decide +kernel)
set_option maxRecDepth 20000 in
theorem gX2_begins_X2_isIn : GoodIn wsX2_begins (va_wsS RX2 47 yX2_isIn wsX2_isIn) := goodIn_app (goodIn_of _ (by decide +kernel)) ggX2_begins_X2_isIn
set_option maxRecDepth 20000 in
theorem ggX2_begins_X2_sight : GoodIn wsX2_begins wsX2_sight := goodIn_r _ [8, 9, 10, 11, 12, 13, 14, 15, 16, 17, 18, 3, 19, 1, 2, 4, 20, 21, 22, 23, 24, 25, 26, 27, 28, 29, 30, 31, 32, 33, 34] (by decide +kernel) (by decide +kernel)
set_option maxRecDepth 20000 in
theorem gX2_begins_X2_sight : GoodIn wsX2_begins (wsV RX2 70 RX2 yX2_sight wsX2_sight) := goodIn_app (goodIn_of _ (by decide +kernel)) ggX2_begins_X2_sight
theorem dX2_begins_0 : decode cX2_begins 0 = .ok (.iload_n 2, 1) := by decide +kernel
theorem dX2_begins_1 : decode cX2_begins 1 = .ok (.iconst 0, 1) := by decide +kernel
theorem dX2_begins_2 : decode cX2_begins 2 = .ok (.iconst 3, 1) := by decide +kernel
theorem dX2_begins_3 : decode cX2_begins 3 = .ok (.invokestatic 47, 3) := by decide +kernel
theorem dX2_begins_6 : decode cX2_begins 6 = .ok (.ifCond .ne 5, 3) := by decide +kernel
theorem dX2_begins_9 : decode cX2_begins 9 = .ok (.iconst (-1), 1) := by decide +kernel
theorem dX2_begins_10 : decode cX2_begins 10 = .ok (.ireturn, 1) := by decide +kernel
theorem dX2_begins_11 : decode cX2_begins 11 = .ok (.bipush 64, 2) := by decide +kernel
theorem dX2_begins_13 : decode cX2_begins 13 = .ok (.iconst 2, 1) := by decide +kernel
theorem dX2_begins_14 : decode cX2_begins 14 = .ok (.iload_n 2, 1) := by decide +kernel
theorem dX2_begins_15 : decode cX2_begins 15 = .ok (.imul, 1) := by decide +kernel
theorem dX2_begins_16 : decode cX2_begins 16 = .ok (.ishr, 1) := by decide +kernel
theorem dX2_begins_17 : decode cX2_begins 17 = .ok (.istore 5, 2) := by decide +kernel
theorem dX2_begins_19 : decode cX2_begins 19 = .ok (.iload_n 3, 1) := by decide +kernel
theorem dX2_begins_20 : decode cX2_begins 20 = .ok (.iconst 0, 1) := by decide +kernel
theorem dX2_begins_21 : decode cX2_begins 21 = .ok (.bipush 64, 2) := by decide +kernel
theorem dX2_begins_23 : decode cX2_begins 23 = .ok (.iload 5, 2) := by decide +kernel
theorem dX2_begins_25 : decode cX2_begins 25 = .ok (.idiv, 1) := by decide +kernel
theorem dX2_begins_26 : decode cX2_begins 26 = .ok (.iconst 1, 1) := by decide +kernel
theorem dX2_begins_27 : decode cX2_begins 27 = .ok (.isub, 1) := by decide +kernel
theorem dX2_begins_28 : decode cX2_begins 28 = .ok (.invokestatic 47, 3) := by decide +kernel
theorem dX2_begins_31 : decode cX2_begins 31 = .ok (.ifCond .eq 25, 3) := by decide +kernel
theorem dX2_begins_34 : decode cX2_begins 34 = .ok (.aload_n 0, 1) := by decide +kernel
theorem dX2_begins_35 : decode cX2_begins 35 = .ok (.iload_n 1, 1) := by decide +kernel
theorem dX2_begins_36 : decode cX2_begins 36 = .ok (.iload_n 3, 1) := by decide +kernel
theorem dX2_begins_37 : decode cX2_begins 37 = .ok (.iload 5, 2) := by decide +kernel
theorem dX2_begins_39 : decode cX2_begins 39 = .ok (.imul, 1) := by decide +kernel
theorem dX2_begins_40 : decode cX2_begins 40 = .ok (.iload_n 3, 1) := by decide +kernel
theorem dX2_begins_41 : decode cX2_begins 41 = .ok (.iload 5, 2) := by decide +kernel
theorem dX2_begins_43 : decode cX2_begins 43 = .ok (.imul, 1) := by decide +kernel
theorem dX2_begins_44 : decode cX2_begins 44 = .ok (.iload 5, 2) := by decide +kernel
theorem dX2_begins_46 : decode cX2_begins 46 = .ok (.iadd, 1) := by decide +kernel
theorem dX2_begins_47 : decode cX2_begins 47 = .ok (.iload 4, 2) := by decide +kernel
theorem dX2_begins_49 : decode cX2_begins 49 = .ok (.iconst 0, 1) := by decide +kernel
theorem dX2_begins_50 : decode cX2_begins 50 = .ok (.invokevirtual 70, 3) := by decide +kernel
theorem dX2_begins_53 : decode cX2_begins 53 = .ok (.goto 4, 3) := by decide +kernel
theorem dX2_begins_56 : decode cX2_begins 56 = .ok (.iconst (-1), 1) := by decide +kernel
theorem dX2_begins_57 : decode cX2_begins 57 = .ok (.ireturn, 1) := by decide +kernel
set_option maxRecDepth 20000 in
theorem ggX2_room_X2_isTable : GoodIn wsX2_room wsX2_isTable := goodIn_r _ [6, 7, 8, 5, 9] (by decide +kernel) (by decide +kernel)
set_option maxRecDepth 20000 in
theorem gX2_room_X2_isTable : GoodIn wsX2_room (va_wsS RX2 51 yX2_isTable wsX2_isTable) := goodIn_app (goodIn_of _ (by decide +kernel)) ggX2_room_X2_isTable
set_option maxRecDepth 20000 in
theorem ggX2_room_X2_isIn : GoodIn wsX2_room wsX2_isIn := goodIn_r _ [9] (by decide +kernel) (by decide +kernel)
set_option maxRecDepth 20000 in
theorem gX2_room_X2_isIn : GoodIn wsX2_room (va_wsS RX2 47 yX2_isIn wsX2_isIn) := goodIn_app (goodIn_of _ (by decide +kernel)) ggX2_room_X2_isIn
theorem dX2_room_0 : decode cX2_room 0 = .ok (.iload_n 1, 1) := by decide +kernel
theorem dX2_room_1 : decode cX2_room 1 = .ok (.invokestatic 51, 3) := by decide +kernel
theorem dX2_room_4 : decode cX2_room 4 = .ok (.ifCond .eq 13, 3) := by decide +kernel
theorem dX2_room_7 : decode cX2_room 7 = .ok (.iload_n 2, 1) := by decide +kernel
theorem dX2_room_8 : decode cX2_room 8 = .ok (.iconst 1, 1) := by decide +kernel
theorem dX2_room_9 : decode cX2_room 9 = .ok (.bipush 40, 2) := by decide +kernel
theorem dX2_room_11 : decode cX2_room 11 = .ok (.invokestatic 47, 3) := by decide +kernel
theorem dX2_room_14 : decode cX2_room 14 = .ok (.ifCond .ne 5, 3) := by decide +kernel
theorem dX2_room_17 : decode cX2_room 17 = .ok (.iconst 0, 1) := by decide +kernel
theorem dX2_room_18 : decode cX2_room 18 = .ok (.ireturn, 1) := by decide +kernel
theorem dX2_room_19 : decode cX2_room 19 = .ok (.aload_n 0, 1) := by decide +kernel
theorem dX2_room_20 : decode cX2_room 20 = .ok (.iconst (-1), 1) := by decide +kernel
theorem dX2_room_21 : decode cX2_room 21 = .ok (.putfield 40, 3) := by decide +kernel
theorem dX2_room_24 : decode cX2_room 24 = .ok (.aload_n 0, 1) := by decide +kernel
theorem dX2_room_25 : decode cX2_room 25 = .ok (.getfield 16, 3) := by decide +kernel
theorem dX2_room_28 : decode cX2_room 28 = .ok (.iload_n 1, 1) := by decide +kernel
theorem dX2_room_29 : decode cX2_room 29 = .ok (.iload_n 2, 1) := by decide +kernel
theorem dX2_room_30 : decode cX2_room 30 = .ok (.iastore, 1) := by decide +kernel
theorem dX2_room_31 : decode cX2_room 31 = .ok (.iconst 1, 1) := by decide +kernel
theorem dX2_room_32 : decode cX2_room 32 = .ok (.ireturn, 1) := by decide +kernel
theorem dX2_most_0 : decode cX2_most 0 = .ok (.aload_n 0, 1) := by decide +kernel
theorem dX2_most_1 : decode cX2_most 1 = .ok (.getfield 37, 3) := by decide +kernel
theorem dX2_most_4 : decode cX2_most 4 = .ok (.bipush 65, 2) := by decide +kernel
theorem dX2_most_6 : decode cX2_most 6 = .ok (.iload_n 1, 1) := by decide +kernel
theorem dX2_most_7 : decode cX2_most 7 = .ok (.imul, 1) := by decide +kernel
theorem dX2_most_8 : decode cX2_most 8 = .ok (.iload_n 2, 1) := by decide +kernel
theorem dX2_most_9 : decode cX2_most 9 = .ok (.iadd, 1) := by decide +kernel
theorem dX2_most_10 : decode cX2_most 10 = .ok (.iaload, 1) := by decide +kernel
theorem dX2_most_11 : decode cX2_most 11 = .ok (.ireturn, 1) := by decide +kernel
set_option maxRecDepth 20000 in
theorem ggX2_binds_X2_most : GoodIn wsX2_binds wsX2_most := goodIn_r _ [10, 1, 11, 12, 13, 14, 15, 16, 17, 18, 19, 20, 21, 22] (by decide +kernel) (by decide +kernel)
set_option maxRecDepth 20000 in
theorem gX2_binds_X2_most : GoodIn wsX2_binds (wsV RX2 74 RX2 yX2_most wsX2_most) := goodIn_app (goodIn_of _ (by decide +kernel)) ggX2_binds_X2_most
theorem dX2_binds_0 : decode cX2_binds 0 = .ok (.iload_n 3, 1) := by decide +kernel
theorem dX2_binds_1 : decode cX2_binds 1 = .ok (.aload_n 0, 1) := by decide +kernel
theorem dX2_binds_2 : decode cX2_binds 2 = .ok (.iload_n 1, 1) := by decide +kernel
theorem dX2_binds_3 : decode cX2_binds 3 = .ok (.iload_n 2, 1) := by decide +kernel
theorem dX2_binds_4 : decode cX2_binds 4 = .ok (.invokevirtual 74, 3) := by decide +kernel
theorem dX2_binds_7 : decode cX2_binds 7 = .ok (.if_icmp .lt 4, 3) := by decide +kernel
theorem dX2_binds_10 : decode cX2_binds 10 = .ok (.return_, 1) := by decide +kernel
theorem dX2_binds_11 : decode cX2_binds 11 = .ok (.iconst 0, 1) := by decide +kernel
theorem dX2_binds_12 : decode cX2_binds 12 = .ok (.istore 4, 2) := by decide +kernel
theorem dX2_binds_14 : decode cX2_binds 14 = .ok (.iload 4, 2) := by decide +kernel
theorem dX2_binds_16 : decode cX2_binds 16 = .ok (.bipush 65, 2) := by decide +kernel
theorem dX2_binds_18 : decode cX2_binds 18 = .ok (.if_icmp .ge 75, 3) := by decide +kernel
theorem dX2_binds_21 : decode cX2_binds 21 = .ok (.aload_n 0, 1) := by decide +kernel
theorem dX2_binds_22 : decode cX2_binds 22 = .ok (.iload 4, 2) := by decide +kernel
theorem dX2_binds_24 : decode cX2_binds 24 = .ok (.iload_n 1, 1) := by decide +kernel
theorem dX2_binds_25 : decode cX2_binds 25 = .ok (.invokevirtual 74, 3) := by decide +kernel
theorem dX2_binds_28 : decode cX2_binds 28 = .ok (.iload_n 3, 1) := by decide +kernel
theorem dX2_binds_29 : decode cX2_binds 29 = .ok (.iadd, 1) := by decide +kernel
theorem dX2_binds_30 : decode cX2_binds 30 = .ok (.istore 5, 2) := by decide +kernel
theorem dX2_binds_32 : decode cX2_binds 32 = .ok (.iconst 0, 1) := by decide +kernel
theorem dX2_binds_33 : decode cX2_binds 33 = .ok (.istore 6, 2) := by decide +kernel
theorem dX2_binds_35 : decode cX2_binds 35 = .ok (.iload 6, 2) := by decide +kernel
theorem dX2_binds_37 : decode cX2_binds 37 = .ok (.bipush 65, 2) := by decide +kernel
theorem dX2_binds_39 : decode cX2_binds 39 = .ok (.if_icmp .ge 48, 3) := by decide +kernel
theorem dX2_binds_42 : decode cX2_binds 42 = .ok (.aload_n 0, 1) := by decide +kernel
theorem dX2_binds_43 : decode cX2_binds 43 = .ok (.getfield 37, 3) := by decide +kernel
theorem dX2_binds_46 : decode cX2_binds 46 = .ok (.bipush 65, 2) := by decide +kernel
theorem dX2_binds_48 : decode cX2_binds 48 = .ok (.iload 4, 2) := by decide +kernel
theorem dX2_binds_50 : decode cX2_binds 50 = .ok (.imul, 1) := by decide +kernel
theorem dX2_binds_51 : decode cX2_binds 51 = .ok (.iload 6, 2) := by decide +kernel
theorem dX2_binds_53 : decode cX2_binds 53 = .ok (.iadd, 1) := by decide +kernel
theorem dX2_binds_54 : decode cX2_binds 54 = .ok (.aload_n 0, 1) := by decide +kernel
theorem dX2_binds_55 : decode cX2_binds 55 = .ok (.getfield 37, 3) := by decide +kernel
theorem dX2_binds_58 : decode cX2_binds 58 = .ok (.bipush 65, 2) := by decide +kernel
theorem dX2_binds_60 : decode cX2_binds 60 = .ok (.iload 4, 2) := by decide +kernel
theorem dX2_binds_62 : decode cX2_binds 62 = .ok (.imul, 1) := by decide +kernel
theorem dX2_binds_63 : decode cX2_binds 63 = .ok (.iload 6, 2) := by decide +kernel
theorem dX2_binds_65 : decode cX2_binds 65 = .ok (.iadd, 1) := by decide +kernel
theorem dX2_binds_66 : decode cX2_binds 66 = .ok (.iaload, 1) := by decide +kernel
theorem dX2_binds_67 : decode cX2_binds 67 = .ok (.iload 5, 2) := by decide +kernel
theorem dX2_binds_69 : decode cX2_binds 69 = .ok (.aload_n 0, 1) := by decide +kernel
theorem dX2_binds_70 : decode cX2_binds 70 = .ok (.iload_n 2, 1) := by decide +kernel
theorem dX2_binds_71 : decode cX2_binds 71 = .ok (.iload 6, 2) := by decide +kernel
theorem dX2_binds_73 : decode cX2_binds 73 = .ok (.invokevirtual 74, 3) := by decide +kernel
theorem dX2_binds_76 : decode cX2_binds 76 = .ok (.iadd, 1) := by decide +kernel
theorem dX2_binds_77 : decode cX2_binds 77 = .ok (.invokestatic 57, 3) := by decide +kernel
theorem dX2_binds_80 : decode cX2_binds 80 = .ok (.iastore, 1) := by decide +kernel
theorem dX2_binds_81 : decode cX2_binds 81 = .ok (.iinc 6 1, 3) := by decide +kernel
theorem dX2_binds_84 : decode cX2_binds 84 = .ok (.goto (-49), 3) := by decide +kernel
theorem dX2_binds_87 : decode cX2_binds 87 = .ok (.iinc 4 1, 3) := by decide +kernel
theorem dX2_binds_90 : decode cX2_binds 90 = .ok (.goto (-76), 3) := by decide +kernel
theorem dX2_binds_93 : decode cX2_binds 93 = .ok (.return_, 1) := by decide +kernel
set_option maxRecDepth 20000 in
theorem ggX2_closes_X2_most : GoodIn wsX2_closes wsX2_most := goodIn_r _ [22, 2, 27, 28, 29, 30, 31, 32, 33, 34, 35, 36, 37, 38] (by decide +kernel) (by decide +kernel)
set_option maxRecDepth 20000 in
theorem gX2_closes_X2_most : GoodIn wsX2_closes (wsV RX2 74 RX2 yX2_most wsX2_most) := goodIn_app (goodIn_of _ (by decide +kernel)) ggX2_closes_X2_most
set_option maxRecDepth 20000 in
theorem ggX2_closes_X2_binds : GoodIn wsX2_closes wsX2_binds := goodIn_r _ [26, 2, 15, 16, 12, 17, 18, 19, 20, 21, 22, 27, 28, 29, 30, 31, 32, 33, 34, 35, 36, 37, 38] (by decide +kernel) (by decide +kernel)
set_option maxRecDepth 20000 in
theorem gX2_closes_X2_binds : GoodIn wsX2_closes (wsV RX2 77 RX2 yX2_binds wsX2_binds) := goodIn_app (goodIn_of _ (by decide +kernel)) ggX2_closes_X2_binds
theorem dX2_closes_0 : decode cX2_closes 0 = .ok (.aload_n 0, 1) := by decide +kernel
theorem dX2_closes_1 : decode cX2_closes 1 = .ok (.getfield 40, 3) := by decide +kernel
theorem dX2_closes_4 : decode cX2_closes 4 = .ok (.iload_n 1, 1) := by decide +kernel
theorem dX2_closes_5 : decode cX2_closes 5 = .ok (.if_icmp .ne 4, 3) := by decide +kernel
theorem dX2_closes_8 : decode cX2_closes 8 = .ok (.return_, 1) := by decide +kernel
theorem dX2_closes_9 : decode cX2_closes 9 = .ok (.aload_n 0, 1) := by decide +kernel
theorem dX2_closes_10 : decode cX2_closes 10 = .ok (.iload_n 1, 1) := by decide +kernel
theorem dX2_closes_11 : decode cX2_closes 11 = .ok (.putfield 40, 3) := by decide +kernel
theorem dX2_closes_14 : decode cX2_closes 14 = .ok (.iconst 0, 1) := by decide +kernel
theorem dX2_closes_15 : decode cX2_closes 15 = .ok (.istore_n 2, 1) := by decide +kernel
theorem dX2_closes_16 : decode cX2_closes 16 = .ok (.iload_n 2, 1) := by decide +kernel
theorem dX2_closes_17 : decode cX2_closes 17 = .ok (.bipush 65, 2) := by decide +kernel
theorem dX2_closes_19 : decode cX2_closes 19 = .ok (.if_icmp .ge 49, 3) := by decide +kernel
theorem dX2_closes_22 : decode cX2_closes 22 = .ok (.iconst 0, 1) := by decide +kernel
theorem dX2_closes_23 : decode cX2_closes 23 = .ok (.istore_n 3, 1) := by decide +kernel
theorem dX2_closes_24 : decode cX2_closes 24 = .ok (.iload_n 3, 1) := by decide +kernel
theorem dX2_closes_25 : decode cX2_closes 25 = .ok (.bipush 65, 2) := by decide +kernel
theorem dX2_closes_27 : decode cX2_closes 27 = .ok (.if_icmp .ge 35, 3) := by decide +kernel
theorem dX2_closes_30 : decode cX2_closes 30 = .ok (.aload_n 0, 1) := by decide +kernel
theorem dX2_closes_31 : decode cX2_closes 31 = .ok (.getfield 37, 3) := by decide +kernel
theorem dX2_closes_34 : decode cX2_closes 34 = .ok (.bipush 65, 2) := by decide +kernel
theorem dX2_closes_36 : decode cX2_closes 36 = .ok (.iload_n 2, 1) := by decide +kernel
theorem dX2_closes_37 : decode cX2_closes 37 = .ok (.imul, 1) := by decide +kernel
theorem dX2_closes_38 : decode cX2_closes 38 = .ok (.iload_n 3, 1) := by decide +kernel
theorem dX2_closes_39 : decode cX2_closes 39 = .ok (.iadd, 1) := by decide +kernel
theorem dX2_closes_40 : decode cX2_closes 40 = .ok (.iload_n 2, 1) := by decide +kernel
theorem dX2_closes_41 : decode cX2_closes 41 = .ok (.iload_n 3, 1) := by decide +kernel
theorem dX2_closes_42 : decode cX2_closes 42 = .ok (.if_icmp .ge 12, 3) := by decide +kernel
theorem dX2_closes_45 : decode cX2_closes 45 = .ok (.aload_n 0, 1) := by decide +kernel
theorem dX2_closes_46 : decode cX2_closes 46 = .ok (.getfield 7, 3) := by decide +kernel
theorem dX2_closes_49 : decode cX2_closes 49 = .ok (.iload_n 1, 1) := by decide +kernel
theorem dX2_closes_50 : decode cX2_closes 50 = .ok (.iaload, 1) := by decide +kernel
theorem dX2_closes_51 : decode cX2_closes 51 = .ok (.goto 4, 3) := by decide +kernel
theorem dX2_closes_54 : decode cX2_closes 54 = .ok (.iconst 0, 1) := by decide +kernel
theorem dX2_closes_55 : decode cX2_closes 55 = .ok (.iastore, 1) := by decide +kernel
theorem dX2_closes_56 : decode cX2_closes 56 = .ok (.iinc 3 1, 3) := by decide +kernel
theorem dX2_closes_59 : decode cX2_closes 59 = .ok (.goto (-35), 3) := by decide +kernel
theorem dX2_closes_62 : decode cX2_closes 62 = .ok (.iinc 2 1, 3) := by decide +kernel
theorem dX2_closes_65 : decode cX2_closes 65 = .ok (.goto (-49), 3) := by decide +kernel
theorem dX2_closes_68 : decode cX2_closes 68 = .ok (.aload_n 0, 1) := by decide +kernel
theorem dX2_closes_69 : decode cX2_closes 69 = .ok (.getfield 37, 3) := by decide +kernel
theorem dX2_closes_72 : decode cX2_closes 72 = .ok (.sipush 4160, 3) := by decide +kernel
theorem dX2_closes_75 : decode cX2_closes 75 = .ok (.aload_n 0, 1) := by decide +kernel
theorem dX2_closes_76 : decode cX2_closes 76 = .ok (.getfield 7, 3) := by decide +kernel
theorem dX2_closes_79 : decode cX2_closes 79 = .ok (.iload_n 1, 1) := by decide +kernel
theorem dX2_closes_80 : decode cX2_closes 80 = .ok (.iaload, 1) := by decide +kernel
theorem dX2_closes_81 : decode cX2_closes 81 = .ok (.ineg, 1) := by decide +kernel
theorem dX2_closes_82 : decode cX2_closes 82 = .ok (.iastore, 1) := by decide +kernel
theorem dX2_closes_83 : decode cX2_closes 83 = .ok (.aload_n 0, 1) := by decide +kernel
theorem dX2_closes_84 : decode cX2_closes 84 = .ok (.getfield 13, 3) := by decide +kernel
theorem dX2_closes_87 : decode cX2_closes 87 = .ok (.iload_n 1, 1) := by decide +kernel
theorem dX2_closes_88 : decode cX2_closes 88 = .ok (.iaload, 1) := by decide +kernel
theorem dX2_closes_89 : decode cX2_closes 89 = .ok (.iconst 1, 1) := by decide +kernel
theorem dX2_closes_90 : decode cX2_closes 90 = .ok (.isub, 1) := by decide +kernel
theorem dX2_closes_91 : decode cX2_closes 91 = .ok (.istore_n 2, 1) := by decide +kernel
theorem dX2_closes_92 : decode cX2_closes 92 = .ok (.iload_n 2, 1) := by decide +kernel
theorem dX2_closes_93 : decode cX2_closes 93 = .ok (.ifCond .lt 163, 3) := by decide +kernel
theorem dX2_closes_96 : decode cX2_closes 96 = .ok (.bipush 40, 2) := by decide +kernel
theorem dX2_closes_98 : decode cX2_closes 98 = .ok (.iload_n 1, 1) := by decide +kernel
theorem dX2_closes_99 : decode cX2_closes 99 = .ok (.imul, 1) := by decide +kernel
theorem dX2_closes_100 : decode cX2_closes 100 = .ok (.iload_n 2, 1) := by decide +kernel
theorem dX2_closes_101 : decode cX2_closes 101 = .ok (.iadd, 1) := by decide +kernel
theorem dX2_closes_102 : decode cX2_closes 102 = .ok (.istore_n 3, 1) := by decide +kernel
theorem dX2_closes_103 : decode cX2_closes 103 = .ok (.aload_n 0, 1) := by decide +kernel
theorem dX2_closes_104 : decode cX2_closes 104 = .ok (.getfield 13, 3) := by decide +kernel
theorem dX2_closes_107 : decode cX2_closes 107 = .ok (.iload_n 1, 1) := by decide +kernel
