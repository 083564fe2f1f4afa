theorem dX2_agrees_41 : decode cX2_agrees 41 = .ok (.iload_n 1, 1) := by decide +kernel
theorem dX2_agrees_42 : decode cX2_agrees 42 = .ok (.imul, 1) := by decide +kernel
theorem dX2_agrees_43 : decode cX2_agrees 43 = .ok (.istore_n 3, 1) := by decide +kernel
theorem dX2_agrees_44 : decode cX2_agrees 44 = .ok (.iload_n 3, 1) := by decide +kernel
theorem dX2_agrees_45 : decode cX2_agrees 45 = .ok (.bipush 40, 2) := by decide +kernel
theorem dX2_agrees_47 : decode cX2_agrees 47 = .ok (.iload_n 1, 1) := by decide +kernel
theorem dX2_agrees_48 : decode cX2_agrees 48 = .ok (.imul, 1) := by decide +kernel
theorem dX2_agrees_49 : decode cX2_agrees 49 = .ok (.aload_n 0, 1) := by decide +kernel
theorem dX2_agrees_50 : decode cX2_agrees 50 = .ok (.getfield 13, 3) := by decide +kernel
theorem dX2_agrees_53 : decode cX2_agrees 53 = .ok (.iload_n 1, 1) := by decide +kernel
theorem dX2_agrees_54 : decode cX2_agrees 54 = .ok (.iaload, 1) := by decide +kernel
theorem dX2_agrees_55 : decode cX2_agrees 55 = .ok (.iadd, 1) := by decide +kernel
theorem dX2_agrees_56 : decode cX2_agrees 56 = .ok (.if_icmp .ge 84, 3) := by decide +kernel
theorem dX2_agrees_59 : decode cX2_agrees 59 = .ok (.aload_n 0, 1) := by decide +kernel
theorem dX2_agrees_60 : decode cX2_agrees 60 = .ok (.iload_n 1, 1) := by decide +kernel
theorem dX2_agrees_61 : decode cX2_agrees 61 = .ok (.aload_n 0, 1) := by decide +kernel
theorem dX2_agrees_62 : decode cX2_agrees 62 = .ok (.getfield 19, 3) := by decide +kernel
theorem dX2_agrees_65 : decode cX2_agrees 65 = .ok (.iload_n 3, 1) := by decide +kernel
theorem dX2_agrees_66 : decode cX2_agrees 66 = .ok (.iaload, 1) := by decide +kernel
theorem dX2_agrees_67 : decode cX2_agrees 67 = .ok (.aload_n 0, 1) := by decide +kernel
theorem dX2_agrees_68 : decode cX2_agrees 68 = .ok (.getfield 22, 3) := by decide +kernel
theorem dX2_agrees_71 : decode cX2_agrees 71 = .ok (.iload_n 3, 1) := by decide +kernel
theorem dX2_agrees_72 : decode cX2_agrees 72 = .ok (.iaload, 1) := by decide +kernel
theorem dX2_agrees_73 : decode cX2_agrees 73 = .ok (.invokevirtual 95, 3) := by decide +kernel
theorem dX2_agrees_76 : decode cX2_agrees 76 = .ok (.lstore 4, 2) := by decide +kernel
theorem dX2_agrees_78 : decode cX2_agrees 78 = .ok (.iload_n 2, 1) := by decide +kernel
theorem dX2_agrees_79 : decode cX2_agrees 79 = .ok (.ifCond .eq 53, 3) := by decide +kernel
theorem dX2_agrees_82 : decode cX2_agrees 82 = .ok (.aload_n 0, 1) := by decide +kernel
theorem dX2_agrees_83 : decode cX2_agrees 83 = .ok (.getfield 31, 3) := by decide +kernel
theorem dX2_agrees_86 : decode cX2_agrees 86 = .ok (.iload_n 3, 1) := by decide +kernel
theorem dX2_agrees_87 : decode cX2_agrees 87 = .ok (.iaload, 1) := by decide +kernel
theorem dX2_agrees_88 : decode cX2_agrees 88 = .ok (.ifCond .ne 40, 3) := by decide +kernel
theorem dX2_agrees_91 : decode cX2_agrees 91 = .ok (.lload 4, 2) := by decide +kernel
theorem dX2_agrees_93 : decode cX2_agrees 93 = .ok (.aload_n 0, 1) := by decide +kernel
theorem dX2_agrees_94 : decode cX2_agrees 94 = .ok (.getfield 25, 3) := by decide +kernel
theorem dX2_agrees_97 : decode cX2_agrees 97 = .ok (.iload_n 3, 1) := by decide +kernel
theorem dX2_agrees_98 : decode cX2_agrees 98 = .ok (.iaload, 1) := by decide +kernel
theorem dX2_agrees_99 : decode cX2_agrees 99 = .ok (.i2l, 1) := by decide +kernel
theorem dX2_agrees_100 : decode cX2_agrees 100 = .ok (.lcmp, 1) := by decide +kernel
theorem dX2_agrees_101 : decode cX2_agrees 101 = .ok (.ifCond .lt 31, 3) := by decide +kernel
theorem dX2_agrees_104 : decode cX2_agrees 104 = .ok (.aload_n 0, 1) := by decide +kernel
theorem dX2_agrees_105 : decode cX2_agrees 105 = .ok (.getfield 28, 3) := by decide +kernel
theorem dX2_agrees_108 : decode cX2_agrees 108 = .ok (.iload_n 3, 1) := by decide +kernel
theorem dX2_agrees_109 : decode cX2_agrees 109 = .ok (.iaload, 1) := by decide +kernel
theorem dX2_agrees_110 : decode cX2_agrees 110 = .ok (.ldc 56, 2) := by decide +kernel
theorem dX2_agrees_112 : decode cX2_agrees 112 = .ok (.if_icmp .eq 16, 3) := by decide +kernel
theorem dX2_agrees_115 : decode cX2_agrees 115 = .ok (.lload 4, 2) := by decide +kernel
theorem dX2_agrees_117 : decode cX2_agrees 117 = .ok (.aload_n 0, 1) := by decide +kernel
theorem dX2_agrees_118 : decode cX2_agrees 118 = .ok (.getfield 28, 3) := by decide +kernel
theorem dX2_agrees_121 : decode cX2_agrees 121 = .ok (.iload_n 3, 1) := by decide +kernel
theorem dX2_agrees_122 : decode cX2_agrees 122 = .ok (.iaload, 1) := by decide +kernel
theorem dX2_agrees_123 : decode cX2_agrees 123 = .ok (.i2l, 1) := by decide +kernel
theorem dX2_agrees_124 : decode cX2_agrees 124 = .ok (.lcmp, 1) := by decide +kernel
theorem dX2_agrees_125 : decode cX2_agrees 125 = .ok (.ifCond .gt 7, 3) := by decide +kernel
theorem dX2_agrees_128 : decode cX2_agrees 128 = .ok (.iconst 1, 1) := by decide +kernel
theorem dX2_agrees_129 : decode cX2_agrees 129 = .ok (.goto 4, 3) := by decide +kernel
theorem dX2_agrees_132 : decode cX2_agrees 132 = .ok (.iconst 0, 1) := by decide +kernel
theorem dX2_agrees_133 : decode cX2_agrees 133 = .ok (.istore_n 2, 1) := by decide +kernel
theorem dX2_agrees_134 : decode cX2_agrees 134 = .ok (.iinc 3 1, 3) := by decide +kernel
theorem dX2_agrees_137 : decode cX2_agrees 137 = .ok (.goto (-93), 3) := by decide +kernel
theorem dX2_agrees_140 : decode cX2_agrees 140 = .ok (.iload_n 2, 1) := by decide +kernel
theorem dX2_agrees_141 : decode cX2_agrees 141 = .ok (.ifCond .eq 7, 3) := by decide +kernel
theorem dX2_agrees_144 : decode cX2_agrees 144 = .ok (.iconst 1, 1) := by decide +kernel
theorem dX2_agrees_145 : decode cX2_agrees 145 = .ok (.goto 4, 3) := by decide +kernel
theorem dX2_agrees_148 : decode cX2_agrees 148 = .ok (.iconst 0, 1) := by decide +kernel
theorem dX2_agrees_149 : decode cX2_agrees 149 = .ok (.ireturn, 1) := by decide +kernel
set_option maxRecDepth 20000 in
theorem ggX2_rowsOf_X2_guessOf : GoodIn wsX2_rowsOf wsX2_guessOf := goodIn_r _ [6, 7, 8, 9, 10, 11, 12, 13, 14, 15, 16, 17, 18, 19] (by decide +kernel) (by decide +kernel)
set_option maxRecDepth 20000 in
theorem gX2_rowsOf_X2_guessOf : GoodIn wsX2_rowsOf (wsV RX2 90 RX2 yX2_guessOf wsX2_guessOf) := goodIn_app (goodIn_of _ (by decide +kernel)) ggX2_rowsOf_X2_guessOf
theorem dX2_rowsOf_0 : decode cX2_rowsOf 0 = .ok (.iload_n 3, 1) := by decide +kernel
theorem dX2_rowsOf_1 : decode cX2_rowsOf 1 = .ok (.ifCond .eq 18, 3) := by decide +kernel
theorem dX2_rowsOf_4 : decode cX2_rowsOf 4 = .ok (.aload_n 0, 1) := by decide +kernel
theorem dX2_rowsOf_5 : decode cX2_rowsOf 5 = .ok (.getfield 34, 3) := by decide +kernel
theorem dX2_rowsOf_8 : decode cX2_rowsOf 8 = .ok (.bipush 64, 2) := by decide +kernel
theorem dX2_rowsOf_10 : decode cX2_rowsOf 10 = .ok (.iload_n 1, 1) := by decide +kernel
theorem dX2_rowsOf_11 : decode cX2_rowsOf 11 = .ok (.imul, 1) := by decide +kernel
theorem dX2_rowsOf_12 : decode cX2_rowsOf 12 = .ok (.iload_n 2, 1) := by decide +kernel
theorem dX2_rowsOf_13 : decode cX2_rowsOf 13 = .ok (.iadd, 1) := by decide +kernel
theorem dX2_rowsOf_14 : decode cX2_rowsOf 14 = .ok (.iaload, 1) := by decide +kernel
theorem dX2_rowsOf_15 : decode cX2_rowsOf 15 = .ok (.i2l, 1) := by decide +kernel
theorem dX2_rowsOf_16 : decode cX2_rowsOf 16 = .ok (.goto 9, 3) := by decide +kernel
theorem dX2_rowsOf_19 : decode cX2_rowsOf 19 = .ok (.aload_n 0, 1) := by decide +kernel
theorem dX2_rowsOf_20 : decode cX2_rowsOf 20 = .ok (.iload_n 1, 1) := by decide +kernel
theorem dX2_rowsOf_21 : decode cX2_rowsOf 21 = .ok (.iload_n 2, 1) := by decide +kernel
theorem dX2_rowsOf_22 : decode cX2_rowsOf 22 = .ok (.invokevirtual 90, 3) := by decide +kernel
theorem dX2_rowsOf_25 : decode cX2_rowsOf 25 = .ok (.lreturn, 1) := by decide +kernel
set_option maxRecDepth 20000 in
theorem ggX2_costOf_X2_rowsOf : GoodIn wsX2_costOf wsX2_rowsOf := goodIn_r _ [5, 6, 7, 8, 9, 4, 10, 11, 12, 13, 14, 15, 16, 17, 18, 19, 20, 21, 22, 23] (by decide +kernel) (by decide +kernel)
set_option maxRecDepth 20000 in
theorem gX2_costOf_X2_rowsOf : GoodIn wsX2_costOf (wsV RX2 99 RX2 yX2_rowsOf wsX2_rowsOf) := goodIn_app (goodIn_of _ (by decide +kernel)) ggX2_costOf_X2_rowsOf
theorem dX2_costOf_0 : decode cX2_costOf 0 = .ok (.iload_n 1, 1) := by decide +kernel
theorem dX2_costOf_1 : decode cX2_costOf 1 = .ok (.iconst 2, 1) := by decide +kernel
theorem dX2_costOf_2 : decode cX2_costOf 2 = .ok (.idiv, 1) := by decide +kernel
theorem dX2_costOf_3 : decode cX2_costOf 3 = .ok (.istore_n 3, 1) := by decide +kernel
theorem dX2_costOf_4 : decode cX2_costOf 4 = .ok (.iload_n 1, 1) := by decide +kernel
theorem dX2_costOf_5 : decode cX2_costOf 5 = .ok (.iconst 2, 1) := by decide +kernel
theorem dX2_costOf_6 : decode cX2_costOf 6 = .ok (.irem, 1) := by decide +kernel
theorem dX2_costOf_7 : decode cX2_costOf 7 = .ok (.ifCond .ne 15, 3) := by decide +kernel
theorem dX2_costOf_10 : decode cX2_costOf 10 = .ok (.iload_n 3, 1) := by decide +kernel
theorem dX2_costOf_11 : decode cX2_costOf 11 = .ok (.ifCond .ne 7, 3) := by decide +kernel
theorem dX2_costOf_14 : decode cX2_costOf 14 = .ok (.iconst 1, 1) := by decide +kernel
theorem dX2_costOf_15 : decode cX2_costOf 15 = .ok (.goto 17, 3) := by decide +kernel
theorem dX2_costOf_18 : decode cX2_costOf 18 = .ok (.iconst 0, 1) := by decide +kernel
theorem dX2_costOf_19 : decode cX2_costOf 19 = .ok (.goto 13, 3) := by decide +kernel
theorem dX2_costOf_22 : decode cX2_costOf 22 = .ok (.iload_n 3, 1) := by decide +kernel
theorem dX2_costOf_23 : decode cX2_costOf 23 = .ok (.iconst 2, 1) := by decide +kernel
theorem dX2_costOf_24 : decode cX2_costOf 24 = .ok (.if_icmp .ne 7, 3) := by decide +kernel
theorem dX2_costOf_27 : decode cX2_costOf 27 = .ok (.iconst 1, 1) := by decide +kernel
theorem dX2_costOf_28 : decode cX2_costOf 28 = .ok (.goto 4, 3) := by decide +kernel
theorem dX2_costOf_31 : decode cX2_costOf 31 = .ok (.iconst 2, 1) := by decide +kernel
theorem dX2_costOf_32 : decode cX2_costOf 32 = .ok (.istore 4, 2) := by decide +kernel
theorem dX2_costOf_34 : decode cX2_costOf 34 = .ok (.iconst 3, 1) := by decide +kernel
theorem dX2_costOf_35 : decode cX2_costOf 35 = .ok (.iload_n 3, 1) := by decide +kernel
theorem dX2_costOf_36 : decode cX2_costOf 36 = .ok (.isub, 1) := by decide +kernel
theorem dX2_costOf_37 : decode cX2_costOf 37 = .ok (.iload 4, 2) := by decide +kernel
theorem dX2_costOf_39 : decode cX2_costOf 39 = .ok (.isub, 1) := by decide +kernel
theorem dX2_costOf_40 : decode cX2_costOf 40 = .ok (.istore 5, 2) := by decide +kernel
theorem dX2_costOf_42 : decode cX2_costOf 42 = .ok (.lconst 0, 1) := by decide +kernel
theorem dX2_costOf_43 : decode cX2_costOf 43 = .ok (.lstore 6, 2) := by decide +kernel
theorem dX2_costOf_45 : decode cX2_costOf 45 = .ok (.iconst 0, 1) := by decide +kernel
theorem dX2_costOf_46 : decode cX2_costOf 46 = .ok (.istore 8, 2) := by decide +kernel
theorem dX2_costOf_48 : decode cX2_costOf 48 = .ok (.iload 8, 2) := by decide +kernel
theorem dX2_costOf_50 : decode cX2_costOf 50 = .ok (.bipush 64, 2) := by decide +kernel
theorem dX2_costOf_52 : decode cX2_costOf 52 = .ok (.if_icmp .ge 49, 3) := by decide +kernel
theorem dX2_costOf_55 : decode cX2_costOf 55 = .ok (.aload_n 0, 1) := by decide +kernel
theorem dX2_costOf_56 : decode cX2_costOf 56 = .ok (.iload_n 3, 1) := by decide +kernel
theorem dX2_costOf_57 : decode cX2_costOf 57 = .ok (.iload 8, 2) := by decide +kernel
theorem dX2_costOf_59 : decode cX2_costOf 59 = .ok (.iload_n 2, 1) := by decide +kernel
theorem dX2_costOf_60 : decode cX2_costOf 60 = .ok (.invokevirtual 99, 3) := by decide +kernel
theorem dX2_costOf_63 : decode cX2_costOf 63 = .ok (.aload_n 0, 1) := by decide +kernel
theorem dX2_costOf_64 : decode cX2_costOf 64 = .ok (.iload 4, 2) := by decide +kernel
theorem dX2_costOf_66 : decode cX2_costOf 66 = .ok (.iload 8, 2) := by decide +kernel
theorem dX2_costOf_68 : decode cX2_costOf 68 = .ok (.iload_n 2, 1) := by decide +kernel
theorem dX2_costOf_69 : decode cX2_costOf 69 = .ok (.invokevirtual 99, 3) := by decide +kernel
theorem dX2_costOf_72 : decode cX2_costOf 72 = .ok (.lmul, 1) := by decide +kernel
theorem dX2_costOf_73 : decode cX2_costOf 73 = .ok (.lstore 9, 2) := by decide +kernel
theorem dX2_costOf_75 : decode cX2_costOf 75 = .ok (.lload 6, 2) := by decide +kernel
theorem dX2_costOf_77 : decode cX2_costOf 77 = .ok (.lload 9, 2) := by decide +kernel
theorem dX2_costOf_79 : decode cX2_costOf 79 = .ok (.lload 9, 2) := by decide +kernel
theorem dX2_costOf_81 : decode cX2_costOf 81 = .ok (.aload_n 0, 1) := by decide +kernel
theorem dX2_costOf_82 : decode cX2_costOf 82 = .ok (.iload 5, 2) := by decide +kernel
theorem dX2_costOf_84 : decode cX2_costOf 84 = .ok (.iload 8, 2) := by decide +kernel
theorem dX2_costOf_86 : decode cX2_costOf 86 = .ok (.iload_n 2, 1) := by decide +kernel
theorem dX2_costOf_87 : decode cX2_costOf 87 = .ok (.invokevirtual 99, 3) := by decide +kernel
theorem dX2_costOf_90 : decode cX2_costOf 90 = .ok (.lmul, 1) := by decide +kernel
theorem dX2_costOf_91 : decode cX2_costOf 91 = .ok (.ladd, 1) := by decide +kernel
theorem dX2_costOf_92 : decode cX2_costOf 92 = .ok (.ladd, 1) := by decide +kernel
theorem dX2_costOf_93 : decode cX2_costOf 93 = .ok (.lstore 6, 2) := by decide +kernel
theorem dX2_costOf_95 : decode cX2_costOf 95 = .ok (.iinc 8 1, 3) := by decide +kernel
theorem dX2_costOf_98 : decode cX2_costOf 98 = .ok (.goto (-50), 3) := by decide +kernel
theorem dX2_costOf_101 : decode cX2_costOf 101 = .ok (.lload 6, 2) := by decide +kernel
theorem dX2_costOf_103 : decode cX2_costOf 103 = .ok (.lreturn, 1) := by decide +kernel
set_option maxRecDepth 20000 in
theorem ggX2_allGuesses_X2_guesses : GoodIn wsX2_allGuesses wsX2_guesses := goodIn_r _ [5, 6, 7, 8, 9, 10, 11, 12, 13, 14, 15, 16, 17, 4, 18, 19, 20, 21, 22, 23, 24, 25, 26, 27, 28, 29, 30, 31, 32, 33, 34, 35, 36, 37, 38, 39, 40, 41, 42, 43, 44, 45, 46, 47] (by decide +kernel) (by decide +kernel)
set_option maxRecDepth 20000 in
theorem gX2_allGuesses_X2_guesses : GoodIn wsX2_allGuesses (wsV RX2 85 RX2 yX2_guesses wsX2_guesses) := goodIn_app (goodIn_of _ (by decide +kernel)) ggX2_allGuesses_X2_guesses
theorem dX2_allGuesses_0 : decode cX2_allGuesses 0 = .ok (.iconst 0, 1) := by decide +kernel
theorem dX2_allGuesses_1 : decode cX2_allGuesses 1 = .ok (.istore_n 1, 1) := by decide +kernel
theorem dX2_allGuesses_2 : decode cX2_allGuesses 2 = .ok (.iload_n 1, 1) := by decide +kernel
theorem dX2_allGuesses_3 : decode cX2_allGuesses 3 = .ok (.iconst 3, 1) := by decide +kernel
theorem dX2_allGuesses_4 : decode cX2_allGuesses 4 = .ok (.if_icmp .ge 14, 3) := by decide +kernel
theorem dX2_allGuesses_7 : decode cX2_allGuesses 7 = .ok (.aload_n 0, 1) := by decide +kernel
theorem dX2_allGuesses_8 : decode cX2_allGuesses 8 = .ok (.iload_n 1, 1) := by decide +kernel
theorem dX2_allGuesses_9 : decode cX2_allGuesses 9 = .ok (.invokevirtual 85, 3) := by decide +kernel
theorem dX2_allGuesses_12 : decode cX2_allGuesses 12 = .ok (.iinc 1 1, 3) := by decide +kernel
theorem dX2_allGuesses_15 : decode cX2_allGuesses 15 = .ok (.goto (-13), 3) := by decide +kernel
theorem dX2_allGuesses_18 : decode cX2_allGuesses 18 = .ok (.return_, 1) := by decide +kernel
set_option maxRecDepth 20000 in
theorem ggX2_cost_X2_isIn : GoodIn wsX2_cost wsX2_isIn := goodIn_r _ [5] (by decide +kernel) (by decide +kernel)
set_option maxRecDepth 20000 in
theorem gX2_cost_X2_isIn : GoodIn wsX2_cost (va_wsS RX2 47 yX2_isIn wsX2_isIn) := goodIn_app (goodIn_of _ (by decide +kernel)) ggX2_cost_X2_isIn
set_option maxRecDepth 20000 in
theorem ggX2_cost_X2_allGuesses : GoodIn wsX2_cost wsX2_allGuesses := goodIn_r _ [9, 10, 11, 12, 4, 13, 14, 15, 16, 17, 18, 19, 20, 21, 22, 23, 24, 25, 26, 27, 28, 29, 30, 31, 32, 33, 34, 35, 36, 37, 38, 39, 40, 41, 42, 43, 57, 58, 59, 60, 61, 62, 63, 64, 65, 66, 67, 68] (by decide +kernel) (by decide +kernel)
set_option maxRecDepth 20000 in
theorem gX2_cost_X2_allGuesses : GoodIn wsX2_cost (wsV RX2 103 RX2 yX2_allGuesses wsX2_allGuesses) := goodIn_app (goodIn_of _ (by decide +kernel)) ggX2_cost_X2_allGuesses
set_option maxRecDepth 20000 in
theorem ggX2_cost_X2_costOf : GoodIn wsX2_cost wsX2_costOf := goodIn_r _ [47, 48, 49, 50, 4, 51, 52, 53, 54, 55, 56, 14, 57, 58, 59, 60, 61, 62, 63, 64, 65, 66, 67, 68] (by decide +kernel) (by decide +kernel)
set_option maxRecDepth 20000 in
theorem gX2_cost_X2_costOf : GoodIn wsX2_cost (wsV RX2 106 RX2 yX2_costOf wsX2_costOf) := goodIn_app (goodIn_of _ (by decide +kernel)) ggX2_cost_X2_costOf
theorem dX2_cost_0 : decode cX2_cost 0 = .ok (.iload_n 1, 1) := by decide +kernel
theorem dX2_cost_1 : decode cX2_cost 1 = .ok (.iconst 0, 1) := by decide +kernel
theorem dX2_cost_2 : decode cX2_cost 2 = .ok (.iconst 5, 1) := by decide +kernel
theorem dX2_cost_3 : decode cX2_cost 3 = .ok (.invokestatic 47, 3) := by decide +kernel
theorem dX2_cost_6 : decode cX2_cost 6 = .ok (.ifCond .ne 7, 3) := by decide +kernel
theorem dX2_cost_9 : decode cX2_cost 9 = .ok (.ldc2_w 88, 3) := by decide +kernel
theorem dX2_cost_12 : decode cX2_cost 12 = .ok (.lreturn, 1) := by decide +kernel
theorem dX2_cost_13 : decode cX2_cost 13 = .ok (.aload_n 0, 1) := by decide +kernel
theorem dX2_cost_14 : decode cX2_cost 14 = .ok (.invokevirtual 103, 3) := by decide +kernel
theorem dX2_cost_17 : decode cX2_cost 17 = .ok (.aload_n 0, 1) := by decide +kernel
theorem dX2_cost_18 : decode cX2_cost 18 = .ok (.iload_n 1, 1) := by decide +kernel
theorem dX2_cost_19 : decode cX2_cost 19 = .ok (.iload_n 2, 1) := by decide +kernel
theorem dX2_cost_20 : decode cX2_cost 20 = .ok (.invokevirtual 106, 3) := by decide +kernel
theorem dX2_cost_23 : decode cX2_cost 23 = .ok (.lreturn, 1) := by decide +kernel
set_option maxRecDepth 20000 in
theorem ggX2_plan_X2_allGuesses : GoodIn wsX2_plan wsX2_allGuesses := goodIn_r _ [5, 6, 7, 8, 4, 9, 10, 11, 12, 13, 14, 15, 16, 17, 18, 19, 20, 21, 22, 23, 24, 25, 26, 27, 28, 29, 30, 31, 32, 33, 34, 35, 36, 37, 38, 39, 53, 54, 55, 56, 57, 58, 59, 60, 61, 62, 63, 64] (by decide +kernel) (by decide +kernel)
set_option maxRecDepth 20000 in
theorem gX2_plan_X2_allGuesses : GoodIn wsX2_plan (wsV RX2 103 RX2 yX2_allGuesses wsX2_allGuesses) := goodIn_app (goodIn_of _ (by decide +kernel)) ggX2_plan_X2_allGuesses
set_option maxRecDepth 20000 in
theorem ggX2_plan_X2_costOf : GoodIn wsX2_plan wsX2_costOf := goodIn_r _ [43, 44, 45, 46, 4, 47, 48, 49, 50, 51, 52, 10, 53, 54, 55, 56, 57, 58, 59, 60, 61, 62, 63, 64] (by decide +kernel) (by decide +kernel)
set_option maxRecDepth 20000 in
theorem gX2_plan_X2_costOf : GoodIn wsX2_plan (wsV RX2 106 RX2 yX2_costOf wsX2_costOf) := goodIn_app (goodIn_of _ (by decide +kernel)) ggX2_plan_X2_costOf
theorem dX2_plan_0 : decode cX2_plan 0 = .ok (.aload_n 0, 1) := by decide +kernel
theorem dX2_plan_1 : decode cX2_plan 1 = .ok (.invokevirtual 103, 3) := by decide +kernel
theorem dX2_plan_4 : decode cX2_plan 4 = .ok (.iconst 0, 1) := by decide +kernel
theorem dX2_plan_5 : decode cX2_plan 5 = .ok (.istore_n 2, 1) := by decide +kernel
theorem dX2_plan_6 : decode cX2_plan 6 = .ok (.iconst 1, 1) := by decide +kernel
theorem dX2_plan_7 : decode cX2_plan 7 = .ok (.istore_n 3, 1) := by decide +kernel
theorem dX2_plan_8 : decode cX2_plan 8 = .ok (.iload_n 3, 1) := by decide +kernel
theorem dX2_plan_9 : decode cX2_plan 9 = .ok (.bipush 6, 2) := by decide +kernel
theorem dX2_plan_11 : decode cX2_plan 11 = .ok (.if_icmp .ge 27, 3) := by decide +kernel
theorem dX2_plan_14 : decode cX2_plan 14 = .ok (.aload_n 0, 1) := by decide +kernel
theorem dX2_plan_15 : decode cX2_plan 15 = .ok (.iload_n 3, 1) := by decide +kernel
theorem dX2_plan_16 : decode cX2_plan 16 = .ok (.iload_n 1, 1) := by decide +kernel
theorem dX2_plan_17 : decode cX2_plan 17 = .ok (.invokevirtual 106, 3) := by decide +kernel
theorem dX2_plan_20 : decode cX2_plan 20 = .ok (.aload_n 0, 1) := by decide +kernel
theorem dX2_plan_21 : decode cX2_plan 21 = .ok (.iload_n 2, 1) := by decide +kernel
theorem dX2_plan_22 : decode cX2_plan 22 = .ok (.iload_n 1, 1) := by decide +kernel
theorem dX2_plan_23 : decode cX2_plan 23 = .ok (.invokevirtual 106, 3) := by decide +kernel
theorem dX2_plan_26 : decode cX2_plan 26 = .ok (.lcmp, 1) := by decide +kernel
theorem dX2_plan_27 : decode cX2_plan 27 = .ok (.ifCond .ge 5, 3) := by decide +kernel
theorem dX2_plan_30 : decode cX2_plan 30 = .ok (.iload_n 3, 1) := by decide +kernel
theorem dX2_plan_31 : decode cX2_plan 31 = .ok (.istore_n 2, 1) := by decide +kernel
theorem dX2_plan_32 : decode cX2_plan 32 = .ok (.iinc 3 1, 3) := by decide +kernel
theorem dX2_plan_35 : decode cX2_plan 35 = .ok (.goto (-27), 3) := by decide +kernel
theorem dX2_plan_38 : decode cX2_plan 38 = .ok (.iload_n 2, 1) := by decide +kernel
theorem dX2_plan_39 : decode cX2_plan 39 = .ok (.ireturn, 1) := by decide +kernel
set_option maxRecDepth 20000 in
theorem ggX2_lost_X2_plan : GoodIn wsX2_lost wsX2_plan := goodIn_r _ [5, 6, 7, 8, 4, 9, 10, 11, 12, 13, 14, 15, 16, 17, 18, 19, 20, 21, 22, 23, 24, 25, 26, 27, 28, 29, 30, 31, 32, 33, 34, 35, 36, 37, 38, 39, 40, 41, 42, 43, 44, 45, 46, 47, 48, 49, 50, 51, 52, 53, 54, 55, 56, 57, 58, 59, 60, 61, 62, 63, 64, 65, 66, 67, 68] (by decide +kernel) (by decide +kernel)
set_option maxRecDepth 20000 in
theorem gX2_lost_X2_plan : GoodIn wsX2_lost (wsV RX2 110 RX2 yX2_plan wsX2_plan) := goodIn_app (goodIn_of _ (by decide +kernel)) ggX2_lost_X2_plan
set_option maxRecDepth 20000 in
theorem ggX2_lost_X2_costOf : GoodIn wsX2_lost wsX2_costOf := goodIn_r _ [47, 48, 49, 50, 4, 51, 52, 53, 54, 55, 56, 14, 57, 58, 59, 60, 61, 62, 63, 64, 65, 66, 67, 68] (by decide +kernel) (by decide +kernel)
set_option maxRecDepth 20000 in
theorem gX2_lost_X2_costOf : GoodIn wsX2_lost (wsV RX2 106 RX2 yX2_costOf wsX2_costOf) := goodIn_app (goodIn_of _ (by decide +kernel)) ggX2_lost_X2_costOf
theorem dX2_lost_0 : decode cX2_lost 0 = .ok (.aload_n 0, 1) := by decide +kernel
theorem dX2_lost_1 : decode cX2_lost 1 = .ok (.iconst 0, 1) := by decide +kernel
theorem dX2_lost_2 : decode cX2_lost 2 = .ok (.invokevirtual 110, 3) := by decide +kernel
theorem dX2_lost_5 : decode cX2_lost 5 = .ok (.istore_n 1, 1) := by decide +kernel
theorem dX2_lost_6 : decode cX2_lost 6 = .ok (.aload_n 0, 1) := by decide +kernel
theorem dX2_lost_7 : decode cX2_lost 7 = .ok (.iconst 1, 1) := by decide +kernel
theorem dX2_lost_8 : decode cX2_lost 8 = .ok (.invokevirtual 110, 3) := by decide +kernel
theorem dX2_lost_11 : decode cX2_lost 11 = .ok (.istore_n 2, 1) := by decide +kernel
theorem dX2_lost_12 : decode cX2_lost 12 = .ok (.aload_n 0, 1) := by decide +kernel
theorem dX2_lost_13 : decode cX2_lost 13 = .ok (.iload_n 1, 1) := by decide +kernel
theorem dX2_lost_14 : decode cX2_lost 14 = .ok (.iconst 1, 1) := by decide +kernel
theorem dX2_lost_15 : decode cX2_lost 15 = .ok (.invokevirtual 106, 3) := by decide +kernel
theorem dX2_lost_18 : decode cX2_lost 18 = .ok (.aload_n 0, 1) := by decide +kernel
theorem dX2_lost_19 : decode cX2_lost 19 = .ok (.iload_n 2, 1) := by decide +kernel
theorem dX2_lost_20 : decode cX2_lost 20 = .ok (.iconst 1, 1) := by decide +kernel
theorem dX2_lost_21 : decode cX2_lost 21 = .ok (.invokevirtual 106, 3) := by decide +kernel
theorem dX2_lost_24 : decode cX2_lost 24 = .ok (.lsub, 1) := by decide +kernel
theorem dX2_lost_25 : decode cX2_lost 25 = .ok (.lreturn, 1) := by decide +kernel
set_option maxRecDepth 20000 in
theorem ggX2_many_X2_closes : GoodIn wsX2_many wsX2_closes := goodIn_r _ [7, 8, 9, 10, 1, 11, 2, 12, 13, 14, 15, 16, 17, 18, 19, 20, 21, 22, 23, 24, 25, 6, 26, 27, 28, 29, 30, 31, 32, 33, 34, 35, 36, 37, 38, 39, 40, 41, 42] (by decide +kernel) (by decide +kernel)
set_option maxRecDepth 20000 in
theorem gX2_many_X2_closes : GoodIn wsX2_many (wsV RX2 81 RX2 yX2_closes wsX2_closes) := goodIn_app (goodIn_of _ (by decide +kernel)) ggX2_many_X2_closes
theorem dX2_many_0 : decode cX2_many 0 = .ok (.aload_n 0, 1) := by decide +kernel
theorem dX2_many_1 : decode cX2_many 1 = .ok (.iload_n 1, 1) := by decide +kernel
theorem dX2_many_2 : decode cX2_many 2 = .ok (.invokevirtual 81, 3) := by decide +kernel
theorem dX2_many_5 : decode cX2_many 5 = .ok (.iconst 0, 1) := by decide +kernel
theorem dX2_many_6 : decode cX2_many 6 = .ok (.istore_n 3, 1) := by decide +kernel
theorem dX2_many_7 : decode cX2_many 7 = .ok (.bipush 40, 2) := by decide +kernel
theorem dX2_many_9 : decode cX2_many 9 = .ok (.iload_n 1, 1) := by decide +kernel
theorem dX2_many_10 : decode cX2_many 10 = .ok (.imul, 1) := by decide +kernel
theorem dX2_many_11 : decode cX2_many 11 = .ok (.istore 4, 2) := by decide +kernel
theorem dX2_many_13 : decode cX2_many 13 = .ok (.iload 4, 2) := by decide +kernel
theorem dX2_many_15 : decode cX2_many 15 = .ok (.bipush 40, 2) := by decide +kernel
theorem dX2_many_17 : decode cX2_many 17 = .ok (.iload_n 1, 1) := by decide +kernel
theorem dX2_many_18 : decode cX2_many 18 = .ok (.imul, 1) := by decide +kernel
theorem dX2_many_19 : decode cX2_many 19 = .ok (.aload_n 0, 1) := by decide +kernel
theorem dX2_many_20 : decode cX2_many 20 = .ok (.getfield 13, 3) := by decide +kernel
theorem dX2_many_23 : decode cX2_many 23 = .ok (.iload_n 1, 1) := by decide +kernel
theorem dX2_many_24 : decode cX2_many 24 = .ok (.iaload, 1) := by decide +kernel
theorem dX2_many_25 : decode cX2_many 25 = .ok (.iadd, 1) := by decide +kernel
theorem dX2_many_26 : decode cX2_many 26 = .ok (.if_icmp .ge 28, 3) := by decide +kernel
theorem dX2_many_29 : decode cX2_many 29 = .ok (.iload_n 3, 1) := by decide +kernel
theorem dX2_many_30 : decode cX2_many 30 = .ok (.aload_n 0, 1) := by decide +kernel
theorem dX2_many_31 : decode cX2_many 31 = .ok (.getfield 31, 3) := by decide +kernel
theorem dX2_many_34 : decode cX2_many 34 = .ok (.iload 4, 2) := by decide +kernel
theorem dX2_many_36 : decode cX2_many 36 = .ok (.iaload, 1) := by decide +kernel
theorem dX2_many_37 : decode cX2_many 37 = .ok (.iload_n 2, 1) := by decide +kernel
theorem dX2_many_38 : decode cX2_many 38 = .ok (.if_icmp .ne 7, 3) := by decide +kernel
theorem dX2_many_41 : decode cX2_many 41 = .ok (.iconst 1, 1) := by decide +kernel
theorem dX2_many_42 : decode cX2_many 42 = .ok (.goto 4, 3) := by decide +kernel
theorem dX2_many_45 : decode cX2_many 45 = .ok (.iconst 0, 1) := by decide +kernel
theorem dX2_many_46 : decode cX2_many 46 = .ok (.iadd, 1) := by decide +kernel
theorem dX2_many_47 : decode cX2_many 47 = .ok (.istore_n 3, 1) := by decide +kernel
theorem dX2_many_48 : decode cX2_many 48 = .ok (.iinc 4 1, 3) := by decide +kernel
theorem dX2_many_51 : decode cX2_many 51 = .ok (.goto (-38), 3) := by decide +kernel
theorem dX2_many_54 : decode cX2_many 54 = .ok (.iload_n 3, 1) := by decide +kernel
theorem dX2_many_55 : decode cX2_many 55 = .ok (.ireturn, 1) := by decide +kernel
set_option maxRecDepth 20000 in
theorem ggX2_table_X2_isTable : GoodIn wsX2_table wsX2_isTable := goodIn_r _ [7, 8, 9, 6, 10] (by decide +kernel) (by decide +kernel)
set_option maxRecDepth 20000 in
theorem gX2_table_X2_isTable : GoodIn wsX2_table (va_wsS RX2 51 yX2_isTable wsX2_isTable) := goodIn_app (goodIn_of _ (by decide +kernel)) ggX2_table_X2_isTable
set_option maxRecDepth 20000 in
theorem ggX2_table_X2_many : GoodIn wsX2_table wsX2_many := goodIn_r _ [14, 2, 15, 16, 17, 18, 6, 19, 20, 21, 1, 3, 22, 23, 24, 25, 26, 27, 28, 29, 30, 31, 32, 33, 34, 35, 36, 37, 38, 39, 40, 41, 42, 43, 44, 45, 46, 47, 48, 49, 50, 51, 52] (by decide +kernel) (by decide +kernel)
set_option maxRecDepth 20000 in
theorem gX2_table_X2_many : GoodIn wsX2_table (wsV RX2 114 RX2 yX2_many wsX2_many) := goodIn_app (goodIn_of _ (by decide +kernel)) ggX2_table_X2_many
theorem dX2_table_0 : decode cX2_table 0 = .ok (.iload_n 1, 1) := by decide +kernel
theorem dX2_table_1 : decode cX2_table 1 = .ok (.invokestatic 51, 3) := by decide +kernel
theorem dX2_table_4 : decode cX2_table 4 = .ok (.ifCond .ne 5, 3) := by decide +kernel
theorem dX2_table_7 : decode cX2_table 7 = .ok (.iconst (-1), 1) := by decide +kernel
theorem dX2_table_8 : decode cX2_table 8 = .ok (.ireturn, 1) := by decide +kernel
theorem dX2_table_9 : decode cX2_table 9 = .ok (.iload_n 2, 1) := by decide +kernel
theorem dX2_table_10 : decode cX2_table 10 = .ok (.tableswitch 80 0 5 #[38, 45, 52, 59, 66, 73], 38) := by decide +kernel
theorem dX2_table_48 : decode cX2_table 48 = .ok (.aload_n 0, 1) := by decide +kernel
theorem dX2_table_49 : decode cX2_table 49 = .ok (.getfield 7, 3) := by decide +kernel
theorem dX2_table_52 : decode cX2_table 52 = .ok (.iload_n 1, 1) := by decide +kernel
theorem dX2_table_53 : decode cX2_table 53 = .ok (.iaload, 1) := by decide +kernel
theorem dX2_table_54 : decode cX2_table 54 = .ok (.ireturn, 1) := by decide +kernel
theorem dX2_table_55 : decode cX2_table 55 = .ok (.aload_n 0, 1) := by decide +kernel
theorem dX2_table_56 : decode cX2_table 56 = .ok (.getfield 13, 3) := by decide +kernel
theorem dX2_table_59 : decode cX2_table 59 = .ok (.iload_n 1, 1) := by decide +kernel
theorem dX2_table_60 : decode cX2_table 60 = .ok (.iaload, 1) := by decide +kernel
theorem dX2_table_61 : decode cX2_table 61 = .ok (.ireturn, 1) := by decide +kernel
theorem dX2_table_62 : decode cX2_table 62 = .ok (.aload_n 0, 1) := by decide +kernel
theorem dX2_table_63 : decode cX2_table 63 = .ok (.iload_n 1, 1) := by decide +kernel
theorem dX2_table_64 : decode cX2_table 64 = .ok (.iconst 0, 1) := by decide +kernel
theorem dX2_table_65 : decode cX2_table 65 = .ok (.invokevirtual 114, 3) := by decide +kernel
theorem dX2_table_68 : decode cX2_table 68 = .ok (.ireturn, 1) := by decide +kernel
theorem dX2_table_69 : decode cX2_table 69 = .ok (.aload_n 0, 1) := by decide +kernel
theorem dX2_table_70 : decode cX2_table 70 = .ok (.iload_n 1, 1) := by decide +kernel
theorem dX2_table_71 : decode cX2_table 71 = .ok (.iconst 1, 1) := by decide +kernel
theorem dX2_table_72 : decode cX2_table 72 = .ok (.invokevirtual 114, 3) := by decide +kernel
theorem dX2_table_75 : decode cX2_table 75 = .ok (.ireturn, 1) := by decide +kernel
theorem dX2_table_76 : decode cX2_table 76 = .ok (.aload_n 0, 1) := by decide +kernel
theorem dX2_table_77 : decode cX2_table 77 = .ok (.iload_n 1, 1) := by decide +kernel
theorem dX2_table_78 : decode cX2_table 78 = .ok (.iconst 2, 1) := by decide +kernel
theorem dX2_table_79 : decode cX2_table 79 = .ok (.invokevirtual 114, 3) := by decide +kernel
theorem dX2_table_82 : decode cX2_table 82 = .ok (.ireturn, 1) := by decide +kernel
theorem dX2_table_83 : decode cX2_table 83 = .ok (.aload_n 0, 1) := by decide +kernel
theorem dX2_table_84 : decode cX2_table 84 = .ok (.getfield 16, 3) := by decide +kernel
theorem dX2_table_87 : decode cX2_table 87 = .ok (.iload_n 1, 1) := by decide +kernel
theorem dX2_table_88 : decode cX2_table 88 = .ok (.iaload, 1) := by decide +kernel
theorem dX2_table_89 : decode cX2_table 89 = .ok (.ireturn, 1) := by decide +kernel
theorem dX2_table_90 : decode cX2_table 90 = .ok (.iconst (-1), 1) := by decide +kernel
theorem dX2_table_91 : decode cX2_table 91 = .ok (.ireturn, 1) := by decide +kernel
theorem dJ9_max_7cf53_0 : decode cJ9_max_7cf53 0 = .ok (.iload_n 0, 1) := by decide +kernel
theorem dJ9_max_7cf53_1 : decode cJ9_max_7cf53 1 = .ok (.iload_n 1, 1) := by decide +kernel
theorem dJ9_max_7cf53_2 : decode cJ9_max_7cf53 2 = .ok (.if_icmp .lt 7, 3) := by decide +kernel
theorem dJ9_max_7cf53_5 : decode cJ9_max_7cf53 5 = .ok (.iload_n 0, 1) := by decide +kernel
theorem dJ9_max_7cf53_6 : decode cJ9_max_7cf53 6 = .ok (.goto 4, 3) := by decide +kernel
theorem dJ9_max_7cf53_9 : decode cJ9_max_7cf53 9 = .ok (.iload_n 1, 1) := by decide +kernel
theorem dJ9_max_7cf53_10 : decode cJ9_max_7cf53 10 = .ok (.ireturn, 1) := by decide +kernel
theorem dJ9_min_7cf53_0 : decode cJ9_min_7cf53 0 = .ok (.iload_n 0, 1) := by decide +kernel
theorem dJ9_min_7cf53_1 : decode cJ9_min_7cf53 1 = .ok (.iload_n 1, 1) := by decide +kernel
theorem dJ9_min_7cf53_2 : decode cJ9_min_7cf53 2 = .ok (.if_icmp .gt 7, 3) := by decide +kernel
theorem dJ9_min_7cf53_5 : decode cJ9_min_7cf53 5 = .ok (.iload_n 0, 1) := by decide +kernel
theorem dJ9_min_7cf53_6 : decode cJ9_min_7cf53 6 = .ok (.goto 4, 3) := by decide +kernel
theorem dJ9_min_7cf53_9 : decode cJ9_min_7cf53 9 = .ok (.iload_n 1, 1) := by decide +kernel
theorem dJ9_min_7cf53_10 : decode cJ9_min_7cf53 10 = .ok (.ireturn, 1) := by decide +kernel
theorem dJ7_fill_53178_0 : decode cJ7_fill_53178 0 = .ok (.iconst 0, 1) := by decide +kernel
theorem dJ7_fill_53178_1 : decode cJ7_fill_53178 1 = .ok (.istore_n 2, 1) := by decide +kernel
theorem dJ7_fill_53178_2 : decode cJ7_fill_53178 2 = .ok (.aload_n 0, 1) := by decide +kernel
theorem dJ7_fill_53178_3 : decode cJ7_fill_53178 3 = .ok (.arraylength, 1) := by decide +kernel
theorem dJ7_fill_53178_4 : decode cJ7_fill_53178 4 = .ok (.istore_n 3, 1) := by decide +kernel
theorem dJ7_fill_53178_5 : decode cJ7_fill_53178 5 = .ok (.iload_n 2, 1) := by decide +kernel
theorem dJ7_fill_53178_6 : decode cJ7_fill_53178 6 = .ok (.iload_n 3, 1) := by decide +kernel
theorem dJ7_fill_53178_7 : decode cJ7_fill_53178 7 = .ok (.if_icmp .ge 13, 3) := by decide +kernel
theorem dJ7_fill_53178_10 : decode cJ7_fill_53178 10 = .ok (.aload_n 0, 1) := by decide +kernel
theorem dJ7_fill_53178_11 : decode cJ7_fill_53178 11 = .ok (.iload_n 2, 1) := by decide +kernel
theorem dJ7_fill_53178_12 : decode cJ7_fill_53178 12 = .ok (.iload_n 1, 1) := by decide +kernel
theorem dJ7_fill_53178_13 : decode cJ7_fill_53178 13 = .ok (.iastore, 1) := by decide +kernel
theorem dJ7_fill_53178_14 : decode cJ7_fill_53178 14 = .ok (.iinc 2 1, 3) := by decide +kernel
theorem dJ7_fill_53178_17 : decode cJ7_fill_53178 17 = .ok (.goto (-12), 3) := by decide +kernel
theorem dJ7_fill_53178_20 : decode cJ7_fill_53178 20 = .ok (.return_, 1) := by decide +kernel
set_option maxRecDepth 20000 in
theorem ggL_law_X1_init : GoodIn wsL_law wsX1_init := goodIn_r _ [8, 9, 10, 11, 12, 13, 14, 15, 16, 17, 18, 19, 20, 21, 22, 23, 24, 25, 26, 27, 28, 29, 30, 31, 32, 33, 365, 378, 379, 380, 381, 382, 383, 384, 385, 386, 387, 388, 389, 390, 391] (by decide +kernel) (by decide +kernel)
set_option maxRecDepth 20000 in
theorem gL_law_X1_init : GoodIn wsL_law (wsX1_init) := ggL_law_X1_init
set_option maxRecDepth 20000 in
theorem ggL_law_X2_init : GoodIn wsL_law wsX2_init := goodIn_r _ [36, 37, 10, 11, 22, 38, 39, 40, 41, 42, 43, 44, 45, 46, 47, 48, 49, 366, 367, 368, 369, 370, 371, 372, 373, 374, 375, 376, 377] (by decide +kernel) (by decide +kernel)
set_option maxRecDepth 20000 in
theorem gL_law_X2_init : GoodIn wsL_law (wsX2_init) := ggL_law_X2_init
set_option maxRecDepth 20000 in
theorem ggL_law_X1_rows : GoodIn wsL_law wsX1_rows := goodIn_r _ [53, 54, 55, 56, 57, 2, 58, 13, 59, 60, 61, 15, 62, 19, 20, 63, 64, 65, 66, 32, 33, 365, 378, 379, 380, 381, 382, 383, 384, 385, 386, 387, 388, 389, 390, 391] (by decide +kernel) (by decide +kernel)
set_option maxRecDepth 20000 in
theorem gL_law_X1_rows : GoodIn wsL_law (wsV RL 13 RX1 yX1_rows wsX1_rows) := goodIn_app (goodIn_of _ (by decide +kernel)) ggL_law_X1_rows
set_option maxRecDepth 20000 in
theorem ggL_law_X2_rows : GoodIn wsL_law wsX2_rows := goodIn_r _ [70, 71, 48, 38, 39, 72, 73, 5, 74, 75, 76, 77, 366, 367, 368, 369, 370, 371, 372, 373, 374, 375, 376, 377] (by decide +kernel) (by decide +kernel)
set_option maxRecDepth 20000 in
theorem gL_law_X2_rows : GoodIn wsL_law (wsV RL 17 RX2 yX2_rows wsX2_rows) := goodIn_app (goodIn_of _ (by decide +kernel)) ggL_law_X2_rows
set_option maxRecDepth 20000 in
theorem ggL_law_X1_put : GoodIn wsL_law wsX1_put := goodIn_r _ [81, 54, 82, 55, 56, 57, 2, 58, 13, 83, 84, 85, 15, 86, 19, 20, 26, 87, 88, 89, 90, 91, 92, 63, 64, 65, 66, 32, 33, 378, 379, 380, 381, 382, 383, 384, 385, 386, 387, 388, 389, 390, 391, 365] (by decide +kernel) (by decide +kernel)
set_option maxRecDepth 20000 in
theorem gL_law_X1_put : GoodIn wsL_law (wsV RL 18 RX1 yX1_put wsX1_put) := goodIn_app (goodIn_of _ (by decide +kernel)) ggL_law_X1_put
set_option maxRecDepth 20000 in
theorem ggL_law_X2_put : GoodIn wsL_law wsX2_put := goodIn_r _ [96, 71, 38, 48, 39, 44, 97, 98, 90, 91, 92, 72, 73, 5, 74, 75, 76, 77, 366, 367, 368, 369, 370, 371, 372, 373, 374, 375, 376, 377] (by decide +kernel) (by decide +kernel)
set_option maxRecDepth 20000 in
theorem gL_law_X2_put : GoodIn wsL_law (wsV RL 22 RX2 yX2_put wsX2_put) := goodIn_app (goodIn_of _ (by decide +kernel)) ggL_law_X2_put
set_option maxRecDepth 20000 in
theorem ggL_law_X1_strike : GoodIn wsL_law wsX1_strike := goodIn_r _ [102, 82, 55, 56, 57, 2, 58, 13, 103, 104, 105, 15, 106, 19, 20, 25, 107, 108, 91, 109, 63, 64, 65, 66, 32, 33, 378, 379, 380, 381, 382, 383, 384, 385, 386, 387, 388, 389, 390, 391, 365] (by decide +kernel) (by decide +kernel)
set_option maxRecDepth 20000 in
theorem gL_law_X1_strike : GoodIn wsL_law (wsV RL 23 RX1 yX1_strike wsX1_strike) := goodIn_app (goodIn_of _ (by decide +kernel)) ggL_law_X1_strike
set_option maxRecDepth 20000 in
theorem ggL_law_X2_strike : GoodIn wsL_law wsX2_strike := goodIn_r _ [113, 38, 48, 39, 43, 114, 108, 91, 109, 72, 73, 5, 74, 75, 76, 77, 366, 367, 368, 369, 370, 371, 372, 373, 374, 375, 376, 377] (by decide +kernel) (by decide +kernel)
set_option maxRecDepth 20000 in
theorem gL_law_X2_strike : GoodIn wsL_law (wsV RL 26 RX2 yX2_strike wsX2_strike) := goodIn_app (goodIn_of _ (by decide +kernel)) ggL_law_X2_strike
set_option maxRecDepth 20000 in
theorem ggL_law_X1_sight : GoodIn wsL_law wsX1_sight := goodIn_r _ [118, 82, 119, 55, 56, 57, 2, 58, 13, 120, 121, 122, 123, 124, 125, 15, 126, 20, 23, 24, 25, 26, 63, 64, 65, 66, 32, 33, 378, 379, 380, 381, 382, 383, 384, 385, 386, 387, 388, 389, 390, 391, 365] (by decide +kernel) (by decide +kernel)
set_option maxRecDepth 20000 in
theorem gL_law_X1_sight : GoodIn wsL_law (wsV RL 27 RX1 yX1_sight wsX1_sight) := goodIn_app (goodIn_of _ (by decide +kernel)) ggL_law_X1_sight
set_option maxRecDepth 20000 in
theorem ggL_law_X2_sight : GoodIn wsL_law wsX2_sight := goodIn_r _ [130, 38, 39, 41, 42, 43, 44, 97, 48, 72, 73, 5, 74, 75, 76, 77, 131, 132, 133, 366, 367, 368, 369, 370, 371, 372, 373, 374, 375, 376, 377] (by decide +kernel) (by decide +kernel)
set_option maxRecDepth 20000 in
theorem gL_law_X2_sight : GoodIn wsL_law (wsV RL 31 RX2 yX2_sight wsX2_sight) := goodIn_app (goodIn_of _ (by decide +kernel)) ggL_law_X2_sight
set_option maxRecDepth 20000 in
theorem ggL_law_X1_begins : GoodIn wsL_law wsX1_begins := goodIn_r _ [137, 138, 139, 2, 140, 141, 116, 117, 118, 82, 119, 55, 56, 57, 58, 13, 120, 121, 122, 123, 124, 125, 15, 126, 20, 23, 24, 25, 26, 63, 64, 65, 66, 32, 33, 378, 379, 380, 381, 382, 383, 384, 385, 386, 387, 388, 389, 390, 391, 365] (by decide +kernel) (by decide +kernel)
set_option maxRecDepth 20000 in
theorem gL_law_X1_begins : GoodIn wsL_law (wsV RL 32 RX1 yX1_begins wsX1_begins) := goodIn_app (goodIn_of _ (by decide +kernel)) ggL_law_X1_begins
set_option maxRecDepth 20000 in
theorem ggL_law_X2_begins : GoodIn wsL_law wsX2_begins := goodIn_r _ [145, 75, 76, 5, 77, 146, 128, 129, 130, 38, 39, 41, 42, 43, 44, 97, 48, 72, 73, 74, 131, 132, 133, 366, 367, 368, 369, 370, 371, 372, 373, 374, 375, 376, 377] (by decide +kernel) (by decide +kernel)
set_option maxRecDepth 20000 in
theorem gL_law_X2_begins : GoodIn wsL_law (wsV RL 36 RX2 yX2_begins wsX2_begins) := goodIn_app (goodIn_of _ (by decide +kernel)) ggL_law_X2_begins
set_option maxRecDepth 20000 in
theorem ggL_law_X1_room : GoodIn wsL_law wsX1_room := goodIn_r _ [150, 55, 56, 57, 2, 58, 13, 151, 152, 153, 15, 154, 21, 63, 64, 65, 66, 32, 33, 365, 378, 379, 380, 381, 382, 383, 384, 385, 386, 387, 388, 389, 390, 391] (by decide +kernel) (by decide +kernel)
set_option maxRecDepth 20000 in
theorem gL_law_X1_room : GoodIn wsL_law (wsV RL 37 RX1 yX1_room wsX1_room) := goodIn_app (goodIn_of _ (by decide +kernel)) ggL_law_X1_room
set_option maxRecDepth 20000 in
theorem ggL_law_X2_room : GoodIn wsL_law wsX2_room := goodIn_r _ [158, 48, 40, 72, 73, 5, 74, 75, 76, 77, 366, 367, 368, 369, 370, 371, 372, 373, 374, 375, 376, 377] (by decide +kernel) (by decide +kernel)
set_option maxRecDepth 20000 in
theorem gL_law_X2_room : GoodIn wsL_law (wsV RL 40 RX2 yX2_room wsX2_room) := goodIn_app (goodIn_of _ (by decide +kernel)) ggL_law_X2_room
set_option maxRecDepth 20000 in
theorem ggL_law_X1_sightOf : GoodIn wsL_law wsX1_sightOf := goodIn_r _ [162, 163, 164, 165, 166, 167, 168, 55, 56, 57, 2, 58, 13, 169, 170, 171, 15, 172, 32, 27, 30, 19, 20, 21, 107, 108, 91, 109, 173, 174, 175, 176, 177, 178, 179, 180, 23, 24, 25, 26, 31, 181, 182, 183, 184, 185, 186, 187, 188, 189, 190, 191, 378, 379, 380, 381, 382, 383, 384, 385, 386, 387, 388, 389, 390, 391, 365] (by decide +kernel) (by decide +kernel)
set_option maxRecDepth 20000 in
theorem gL_law_X1_sightOf : GoodIn wsL_law (wsV RL 41 RX1 yX1_sightOf wsX1_sightOf) := goodIn_app (goodIn_of _ (by decide +kernel)) ggL_law_X1_sightOf
set_option maxRecDepth 20000 in
theorem ggL_law_X2_sightOf : GoodIn wsL_law wsX2_sightOf := goodIn_r _ [195, 39, 41, 42, 43, 44, 45, 72, 73, 5, 74, 75, 76, 77, 196, 197, 198, 199, 48, 47, 38, 40, 114, 108, 91, 109, 98, 90, 92, 200, 201, 202, 203, 204, 205, 206, 207, 366, 367, 368, 369, 370, 371, 372, 373, 374, 375, 376, 377] (by decide +kernel) (by decide +kernel)
set_option maxRecDepth 20000 in
theorem gL_law_X2_sightOf : GoodIn wsL_law (wsV RL 45 RX2 yX2_sightOf wsX2_sightOf) := goodIn_app (goodIn_of _ (by decide +kernel)) ggL_law_X2_sightOf
set_option maxRecDepth 20000 in
theorem ggL_law_X1_least : GoodIn wsL_law wsX1_least := goodIn_r _ [211, 55, 56, 57, 2, 58, 13, 120, 121, 122, 212, 213, 214, 15, 215, 31, 19, 216, 170, 171, 172, 32, 27, 30, 20, 21, 107, 108, 91, 109, 173, 174, 175, 176, 177, 178, 179, 180, 23, 24, 25, 26, 181, 182, 183, 184, 185, 186, 187, 188, 189, 190, 191, 365, 378, 379, 380, 381, 382, 383, 384, 385, 386, 387, 388, 389, 390, 391] (by decide +kernel) (by decide +kernel)
set_option maxRecDepth 20000 in
theorem gL_law_X1_least : GoodIn wsL_law (wsV RL 46 RX1 yX1_least wsX1_least) := goodIn_app (goodIn_of _ (by decide +kernel)) ggL_law_X1_least
set_option maxRecDepth 20000 in
theorem ggL_law_X2_least : GoodIn wsL_law wsX2_least := goodIn_r _ [220, 72, 73, 5, 74, 75, 76, 77, 131, 132, 133, 196, 197, 198, 199, 48, 47, 38, 39, 40, 45, 43, 42, 41, 114, 108, 91, 109, 44, 98, 90, 92, 200, 201, 202, 203, 204, 205, 206, 207, 366, 367, 368, 369, 370, 371, 372, 373, 374, 375, 376, 377] (by decide +kernel) (by decide +kernel)
set_option maxRecDepth 20000 in
theorem gL_law_X2_least : GoodIn wsL_law (wsV RL 49 RX2 yX2_least wsX2_least) := goodIn_app (goodIn_of _ (by decide +kernel)) ggL_law_X2_least
set_option maxRecDepth 20000 in
theorem ggL_law_X1_greatest : GoodIn wsL_law wsX1_greatest := goodIn_r _ [224, 55, 56, 57, 2, 58, 13, 120, 121, 122, 212, 213, 214, 15, 215, 31, 19, 216, 170, 171, 172, 32, 27, 30, 20, 21, 107, 108, 91, 109, 173, 174, 175, 176, 177, 178, 179, 180, 23, 24, 25, 26, 181, 182, 183, 184, 185, 186, 187, 188, 189, 190, 191, 365, 378, 379, 380, 381, 382, 383, 384, 385, 386, 387, 388, 389, 390, 391] (by decide +kernel) (by decide +kernel)
set_option maxRecDepth 20000 in
theorem gL_law_X1_greatest : GoodIn wsL_law (wsV RL 50 RX1 yX1_greatest wsX1_greatest) := goodIn_app (goodIn_of _ (by decide +kernel)) ggL_law_X1_greatest
set_option maxRecDepth 20000 in
theorem ggL_law_X2_greatest : GoodIn wsL_law wsX2_greatest := goodIn_r _ [228, 72, 73, 5, 74, 75, 76, 77, 131, 132, 133, 196, 197, 198, 199, 48, 47, 38, 39, 40, 45, 43, 42, 41, 114, 108, 91, 109, 44, 98, 90, 92, 200, 201, 202, 203, 204, 205, 206, 207, 366, 367, 368, 369, 370, 371, 372, 373, 374, 375, 376, 377] (by decide +kernel) (by decide +kernel)
set_option maxRecDepth 20000 in
theorem gL_law_X2_greatest : GoodIn wsL_law (wsV RL 53 RX2 yX2_greatest wsX2_greatest) := goodIn_app (goodIn_of _ (by decide +kernel)) ggL_law_X2_greatest
set_option maxRecDepth 20000 in
theorem ggL_law_X1_guess : GoodIn wsL_law wsX1_guess := goodIn_r _ [232, 233, 55, 56, 57, 2, 58, 13, 120, 121, 122, 234, 235, 236, 15, 237, 33, 30, 29, 181, 182, 183, 184, 31, 19, 107, 108, 91, 109, 89, 90, 92, 216, 170, 171, 172, 32, 27, 20, 21, 173, 174, 175, 176, 177, 178, 179, 180, 23, 24, 25, 26, 185, 186, 187, 188, 189, 190, 191, 238, 239, 240, 241, 242, 243, 244, 378, 379, 380, 381, 382, 383, 384, 385, 386, 387, 388, 389, 390, 391, 365] (by decide +kernel) (by decide +kernel)
set_option maxRecDepth 20000 in
theorem gL_law_X1_guess : GoodIn wsL_law (wsV RL 54 RX1 yX1_guess wsX1_guess) := goodIn_app (goodIn_of _ (by decide +kernel)) ggL_law_X1_guess
set_option maxRecDepth 20000 in
theorem ggL_law_X2_guess : GoodIn wsL_law wsX2_guess := goodIn_r _ [248, 49, 72, 73, 5, 74, 75, 76, 77, 131, 132, 133, 249, 250, 251, 252, 38, 114, 108, 91, 109, 98, 90, 92, 196, 197, 198, 199, 48, 47, 39, 40, 45, 43, 42, 41, 44, 200, 201, 202, 203, 204, 205, 206, 207, 366, 367, 368, 369, 370, 371, 372, 373, 374, 375, 376, 377] (by decide +kernel) (by decide +kernel)
set_option maxRecDepth 20000 in
theorem gL_law_X2_guess : GoodIn wsL_law (wsV RL 57 RX2 yX2_guess wsX2_guess) := goodIn_app (goodIn_of _ (by decide +kernel)) ggL_law_X2_guess
set_option maxRecDepth 20000 in
theorem ggL_law_X1_join : GoodIn wsL_law wsX1_join := goodIn_r _ [256, 257, 55, 56, 57, 2, 58, 13, 120, 121, 122, 234, 235, 236, 15, 237, 33, 30, 29, 181, 182, 183, 184, 31, 19, 107, 108, 91, 109, 89, 90, 92, 216, 170, 171, 172, 32, 27, 20, 21, 173, 174, 175, 176, 177, 178, 179, 180, 23, 24, 25, 26, 185, 186, 187, 188, 189, 190, 191, 238, 239, 240, 241, 242, 243, 244, 258, 259, 260, 261, 28, 365, 378, 379, 380, 381, 382, 383, 384, 385, 386, 387, 388, 389, 390, 391] (by decide +kernel) (by decide +kernel)
set_option maxRecDepth 20000 in
theorem gL_law_X1_join : GoodIn wsL_law (wsV RL 58 RX1 yX1_join wsX1_join) := goodIn_app (goodIn_of _ (by decide +kernel)) ggL_law_X1_join
set_option maxRecDepth 20000 in
theorem ggL_law_X2_join : GoodIn wsL_law wsX2_join := goodIn_r _ [265, 266, 72, 73, 5, 74, 75, 76, 77, 131, 132, 133, 249, 250, 251, 252, 49, 38, 114, 108, 91, 109, 98, 90, 92, 196, 197, 198, 199, 48, 47, 39, 40, 45, 43, 42, 41, 44, 200, 201, 202, 203, 204, 205, 206, 207, 267, 268, 269, 270, 366, 367, 368, 369, 370, 371, 372, 373, 374, 375, 376, 377] (by decide +kernel) (by decide +kernel)
set_option maxRecDepth 20000 in
theorem gL_law_X2_join : GoodIn wsL_law (wsV RL 62 RX2 yX2_join wsX2_join) := goodIn_app (goodIn_of _ (by decide +kernel)) ggL_law_X2_join
set_option maxRecDepth 20000 in
theorem ggL_law_X1_truth : GoodIn wsL_law wsX1_truth := goodIn_r _ [274, 275, 276, 55, 56, 57, 2, 58, 13, 378, 379, 380, 381, 382, 383, 384, 385, 386, 387, 388, 389, 390, 391, 365] (by decide +kernel) (by decide +kernel)
set_option maxRecDepth 20000 in
theorem gL_law_X1_truth : GoodIn wsL_law (wsV RL 63 RX1 yX1_truth wsX1_truth) := goodIn_app (goodIn_of _ (by decide +kernel)) ggL_law_X1_truth
set_option maxRecDepth 20000 in
theorem ggL_law_X2_truth : GoodIn wsL_law wsX2_truth := goodIn_r _ [280, 281, 46, 72, 73, 5, 74, 75, 76, 77, 366, 367, 368, 369, 370, 371, 372, 373, 374, 375, 376, 377] (by decide +kernel) (by decide +kernel)
set_option maxRecDepth 20000 in
theorem gL_law_X2_truth : GoodIn wsL_law (wsV RL 67 RX2 yX2_truth wsX2_truth) := goodIn_app (goodIn_of _ (by decide +kernel)) ggL_law_X2_truth
set_option maxRecDepth 20000 in
theorem ggL_law_X1_agrees : GoodIn wsL_law wsX1_agrees := goodIn_r _ [285, 55, 56, 57, 2, 58, 13, 286, 287, 288, 15, 289, 31, 28, 19, 20, 24, 23, 27, 25, 26, 216, 170, 171, 172, 32, 30, 21, 107, 108, 91, 109, 173, 174, 175, 176, 177, 178, 179, 180, 181, 182, 183, 184, 185, 186, 187, 188, 189, 190, 191, 365, 378, 379, 380, 381, 382, 383, 384, 385, 386, 387, 388, 389, 390, 391] (by decide +kernel) (by decide +kernel)
set_option maxRecDepth 20000 in
theorem gL_law_X1_agrees : GoodIn wsL_law (wsV RL 68 RX1 yX1_agrees wsX1_agrees) := goodIn_app (goodIn_of _ (by decide +kernel)) ggL_law_X1_agrees
set_option maxRecDepth 20000 in
theorem ggL_law_X2_agrees : GoodIn wsL_law wsX2_agrees := goodIn_r _ [293, 38, 39, 41, 42, 45, 43, 44, 97, 72, 73, 5, 74, 75, 76, 77, 196, 197, 198, 199, 48, 47, 40, 114, 108, 91, 109, 98, 90, 92, 200, 201, 202, 203, 204, 205, 206, 207, 294, 295, 296, 297, 46, 366, 367, 368, 369, 370, 371, 372, 373, 374, 375, 376, 377] (by decide +kernel) (by decide +kernel)
set_option maxRecDepth 20000 in
theorem gL_law_X2_agrees : GoodIn wsL_law (wsV RL 72 RX2 yX2_agrees wsX2_agrees) := goodIn_app (goodIn_of _ (by decide +kernel)) ggL_law_X2_agrees
set_option maxRecDepth 20000 in
theorem ggL_law_X1_cost : GoodIn wsL_law wsX1_cost := goodIn_r _ [301, 257, 302, 303, 304, 2, 305, 13, 234, 235, 236, 15, 237, 33, 30, 29, 181, 182, 183, 184, 31, 19, 107, 108, 91, 109, 89, 90, 92, 216, 170, 171, 172, 32, 27, 20, 21, 173, 174, 175, 176, 177, 178, 179, 180, 23, 24, 25, 26, 185, 186, 187, 188, 189, 190, 191, 238, 239, 240, 241, 242, 243, 244, 306, 307, 308, 309, 310, 258, 259, 260, 261, 28, 365, 378, 379, 380, 381, 382, 383, 384, 385, 386, 387, 388, 389, 390, 391] (by decide +kernel) (by decide +kernel)
set_option maxRecDepth 20000 in
theorem gL_law_X1_cost : GoodIn wsL_law (wsV RL 73 RX1 yX1_cost wsX1_cost) := goodIn_app (goodIn_of _ (by decide +kernel)) ggL_law_X1_cost
set_option maxRecDepth 20000 in
theorem ggL_law_X2_cost : GoodIn wsL_law wsX2_cost := goodIn_r _ [314, 266, 75, 76, 5, 77, 315, 316, 317, 318, 249, 250, 251, 252, 49, 38, 114, 108, 91, 109, 98, 90, 92, 196, 197, 198, 199, 48, 47, 39, 40, 45, 43, 42, 41, 44, 200, 201, 202, 203, 204, 205, 206, 207, 319, 320, 321, 322, 323, 324, 325, 326, 46, 267, 268, 269, 270, 366, 367, 368, 369, 370, 371, 372, 373, 374, 375, 376, 377] (by decide +kernel) (by decide +kernel)
set_option maxRecDepth 20000 in
theorem gL_law_X2_cost : GoodIn wsL_law (wsV RL 77 RX2 yX2_cost wsX2_cost) := goodIn_app (goodIn_of _ (by decide +kernel)) ggL_law_X2_cost
set_option maxRecDepth 20000 in
theorem ggL_law_X1_plan : GoodIn wsL_law wsX1_plan := goodIn_r _ [330, 302, 303, 304, 2, 305, 13, 234, 235, 236, 15, 237, 33, 30, 29, 181, 182, 183, 184, 31, 19, 107, 108, 91, 109, 89, 90, 92, 216, 170, 171, 172, 32, 27, 20, 21, 173, 174, 175, 176, 177, 178, 179, 180, 23, 24, 25, 26, 185, 186, 187, 188, 189, 190, 191, 238, 239, 240, 241, 242, 243, 244, 331, 332, 333, 334, 306, 307, 308, 309, 310, 258, 259, 260, 261, 28, 365, 378, 379, 380, 381, 382, 383, 384, 385, 386, 387, 388, 389, 390, 391] (by decide +kernel) (by decide +kernel)
set_option maxRecDepth 20000 in
theorem gL_law_X1_plan : GoodIn wsL_law (wsV RL 78 RX1 yX1_plan wsX1_plan) := goodIn_app (goodIn_of _ (by decide +kernel)) ggL_law_X1_plan
set_option maxRecDepth 20000 in
theorem ggL_law_X2_plan : GoodIn wsL_law wsX2_plan := goodIn_r _ [338, 315, 316, 317, 5, 318, 249, 250, 251, 252, 49, 38, 114, 108, 91, 109, 98, 90, 92, 196, 197, 198, 199, 48, 47, 39, 40, 45, 43, 42, 41, 44, 200, 201, 202, 203, 204, 205, 206, 207, 319, 320, 321, 322, 323, 324, 325, 326, 46, 267, 268, 269, 270, 366, 367, 368, 369, 370, 371, 372, 373, 374, 375, 376, 377] (by decide +kernel) (by decide +kernel)
set_option maxRecDepth 20000 in
theorem gL_law_X2_plan : GoodIn wsL_law (wsV RL 82 RX2 yX2_plan wsX2_plan) := goodIn_app (goodIn_of _ (by decide +kernel)) ggL_law_X2_plan
set_option maxRecDepth 20000 in
theorem ggL_law_X1_lost : GoodIn wsL_law wsX1_lost := goodIn_r _ [342, 302, 303, 304, 2, 305, 13, 234, 235, 236, 15, 237, 33, 30, 29, 181, 182, 183, 184, 31, 19, 107, 108, 91, 109, 89, 90, 92, 216, 170, 171, 172, 32, 27, 20, 21, 173, 174, 175, 176, 177, 178, 179, 180, 23, 24, 25, 26, 185, 186, 187, 188, 189, 190, 191, 238, 239, 240, 241, 242, 243, 244, 331, 332, 333, 334, 306, 307, 308, 309, 310, 258, 259, 260, 261, 28, 365, 378, 379, 380, 381, 382, 383, 384, 385, 386, 387, 388, 389, 390, 391] (by decide +kernel) (by decide +kernel)
set_option maxRecDepth 20000 in
theorem gL_law_X1_lost : GoodIn wsL_law (wsV RL 83 RX1 yX1_lost wsX1_lost) := goodIn_app (goodIn_of _ (by decide +kernel)) ggL_law_X1_lost
set_option maxRecDepth 20000 in
theorem ggL_law_X2_lost : GoodIn wsL_law wsX2_lost := goodIn_r _ [346, 347, 336, 337, 5, 338, 315, 316, 317, 318, 249, 250, 251, 252, 49, 38, 114, 108, 91, 109, 98, 90, 92, 196, 197, 198, 199, 48, 47, 39, 40, 45, 43, 42, 41, 44, 200, 201, 202, 203, 204, 205, 206, 207, 319, 320, 321, 322, 323, 324, 325, 326, 46, 267, 268, 269, 270, 366, 367, 368, 369, 370, 371, 372, 373, 374, 375, 376, 377] (by decide +kernel) (by decide +kernel)
set_option maxRecDepth 20000 in
theorem gL_law_X2_lost : GoodIn wsL_law (wsV RL 87 RX2 yX2_lost wsX2_lost) := goodIn_app (goodIn_of _ (by decide +kernel)) ggL_law_X2_lost
set_option maxRecDepth 20000 in
theorem ggL_law_X1_table : GoodIn wsL_law wsX1_table := goodIn_r _ [351, 82, 163, 352, 55, 56, 57, 2, 58, 13, 353, 354, 355, 15, 356, 20, 27, 216, 170, 171, 172, 32, 30, 19, 21, 107, 108, 91, 109, 173, 174, 175, 176, 177, 178, 179, 180, 23, 24, 25, 26, 31, 181, 182, 183, 184, 185, 186, 187, 188, 189, 190, 191, 378, 379, 380, 381, 382, 383, 384, 385, 386, 387, 388, 389, 390, 391, 365] (by decide +kernel) (by decide +kernel)
set_option maxRecDepth 20000 in
theorem gL_law_X1_table : GoodIn wsL_law (wsV RL 88 RX1 yX1_table wsX1_table) := goodIn_app (goodIn_of _ (by decide +kernel)) ggL_law_X1_table
set_option maxRecDepth 20000 in
theorem ggL_law_X2_table : GoodIn wsL_law wsX2_table := goodIn_r _ [360, 38, 39, 40, 72, 73, 5, 74, 75, 76, 77, 361, 362, 363, 364, 45, 196, 197, 198, 199, 48, 47, 43, 42, 41, 114, 108, 91, 109, 44, 98, 90, 92, 200, 201, 202, 203, 204, 205, 206, 207, 366, 367, 368, 369, 370, 371, 372, 373, 374, 375, 376, 377] (by decide +kernel) (by decide +kernel)
set_option maxRecDepth 20000 in
theorem gL_law_X2_table : GoodIn wsL_law (wsV RL 91 RX2 yX2_table wsX2_table) := goodIn_app (goodIn_of _ (by decide +kernel)) ggL_law_X2_table
theorem dL_law_0 : decode cL_law 0 = .ok (.new 7, 3) := by decide +kernel
theorem dL_law_3 : decode cL_law 3 = .ok (.dup, 1) := by decide +kernel
theorem dL_law_4 : decode cL_law 4 = .ok (.invokespecial 9, 3) := by decide +kernel
theorem dL_law_7 : decode cL_law 7 = .ok (.astore_n 1, 1) := by decide +kernel
theorem dL_law_8 : decode cL_law 8 = .ok (.new 10, 3) := by decide +kernel
theorem dL_law_11 : decode cL_law 11 = .ok (.dup, 1) := by decide +kernel
theorem dL_law_12 : decode cL_law 12 = .ok (.invokespecial 12, 3) := by decide +kernel
theorem dL_law_15 : decode cL_law 15 = .ok (.astore_n 2, 1) := by decide +kernel
theorem dL_law_16 : decode cL_law 16 = .ok (.iconst 0, 1) := by decide +kernel
theorem dL_law_17 : decode cL_law 17 = .ok (.istore_n 3, 1) := by decide +kernel
theorem dL_law_18 : decode cL_law 18 = .ok (.iload_n 3, 1) := by decide +kernel
theorem dL_law_19 : decode cL_law 19 = .ok (.aload_n 0, 1) := by decide +kernel
theorem dL_law_20 : decode cL_law 20 = .ok (.arraylength, 1) := by decide +kernel
theorem dL_law_21 : decode cL_law 21 = .ok (.bipush 6, 2) := by decide +kernel
theorem dL_law_23 : decode cL_law 23 = .ok (.isub, 1) := by decide +kernel
theorem dL_law_24 : decode cL_law 24 = .ok (.if_icmp .gt 790, 3) := by decide +kernel
theorem dL_law_27 : decode cL_law 27 = .ok (.aload_n 0, 1) := by decide +kernel
theorem dL_law_28 : decode cL_law 28 = .ok (.iload_n 3, 1) := by decide +kernel
theorem dL_law_29 : decode cL_law 29 = .ok (.iaload, 1) := by decide +kernel
theorem dL_law_30 : decode cL_law 30 = .ok (.bipush 31, 2) := by decide +kernel
theorem dL_law_32 : decode cL_law 32 = .ok (.iand, 1) := by decide +kernel
theorem dL_law_33 : decode cL_law 33 = .ok (.tableswitch 775 0 16 #[83, 116, 149, 182, 261, 314, 347, 390, 433, 476, 519, 573, 616, 639, 689, 728, 742], 83) := by decide +kernel
theorem dL_law_116 : decode cL_law 116 = .ok (.aload_n 1, 1) := by decide +kernel
theorem dL_law_117 : decode cL_law 117 = .ok (.aload_n 0, 1) := by decide +kernel
theorem dL_law_118 : decode cL_law 118 = .ok (.iload_n 3, 1) := by decide +kernel
theorem dL_law_119 : decode cL_law 119 = .ok (.iconst 1, 1) := by decide +kernel
theorem dL_law_120 : decode cL_law 120 = .ok (.iadd, 1) := by decide +kernel
theorem dL_law_121 : decode cL_law 121 = .ok (.iaload, 1) := by decide +kernel
theorem dL_law_122 : decode cL_law 122 = .ok (.aload_n 0, 1) := by decide +kernel
theorem dL_law_123 : decode cL_law 123 = .ok (.iload_n 3, 1) := by decide +kernel
theorem dL_law_124 : decode cL_law 124 = .ok (.iconst 2, 1) := by decide +kernel
theorem dL_law_125 : decode cL_law 125 = .ok (.iadd, 1) := by decide +kernel
theorem dL_law_126 : decode cL_law 126 = .ok (.iaload, 1) := by decide +kernel
theorem dL_law_127 : decode cL_law 127 = .ok (.invokevirtual 13, 3) := by decide +kernel
theorem dL_law_130 : decode cL_law 130 = .ok (.aload_n 2, 1) := by decide +kernel
theorem dL_law_131 : decode cL_law 131 = .ok (.aload_n 0, 1) := by decide +kernel
theorem dL_law_132 : decode cL_law 132 = .ok (.iload_n 3, 1) := by decide +kernel
theorem dL_law_133 : decode cL_law 133 = .ok (.iconst 1, 1) := by decide +kernel
theorem dL_law_134 : decode cL_law 134 = .ok (.iadd, 1) := by decide +kernel
theorem dL_law_135 : decode cL_law 135 = .ok (.iaload, 1) := by decide +kernel
theorem dL_law_136 : decode cL_law 136 = .ok (.aload_n 0, 1) := by decide +kernel
theorem dL_law_137 : decode cL_law 137 = .ok (.iload_n 3, 1) := by decide +kernel
theorem dL_law_138 : decode cL_law 138 = .ok (.iconst 2, 1) := by decide +kernel
theorem dL_law_139 : decode cL_law 139 = .ok (.iadd, 1) := by decide +kernel
theorem dL_law_140 : decode cL_law 140 = .ok (.iaload, 1) := by decide +kernel
theorem dL_law_141 : decode cL_law 141 = .ok (.invokevirtual 17, 3) := by decide +kernel
theorem dL_law_144 : decode cL_law 144 = .ok (.if_icmp .eq 664, 3) := by decide +kernel
theorem dL_law_147 : decode cL_law 147 = .ok (.iconst 0, 1) := by decide +kernel
theorem dL_law_148 : decode cL_law 148 = .ok (.ireturn, 1) := by decide +kernel
theorem dL_law_149 : decode cL_law 149 = .ok (.aload_n 1, 1) := by decide +kernel
theorem dL_law_150 : decode cL_law 150 = .ok (.aload_n 0, 1) := by decide +kernel
theorem dL_law_151 : decode cL_law 151 = .ok (.iload_n 3, 1) := by decide +kernel
theorem dL_law_152 : decode cL_law 152 = .ok (.iconst 1, 1) := by decide +kernel
theorem dL_law_153 : decode cL_law 153 = .ok (.iadd, 1) := by decide +kernel
theorem dL_law_154 : decode cL_law 154 = .ok (.iaload, 1) := by decide +kernel
theorem dL_law_155 : decode cL_law 155 = .ok (.aload_n 0, 1) := by decide +kernel
theorem dL_law_156 : decode cL_law 156 = .ok (.iload_n 3, 1) := by decide +kernel
theorem dL_law_157 : decode cL_law 157 = .ok (.iconst 2, 1) := by decide +kernel
theorem dL_law_158 : decode cL_law 158 = .ok (.iadd, 1) := by decide +kernel
theorem dL_law_159 : decode cL_law 159 = .ok (.iaload, 1) := by decide +kernel
theorem dL_law_160 : decode cL_law 160 = .ok (.invokevirtual 18, 3) := by decide +kernel
theorem dL_law_163 : decode cL_law 163 = .ok (.aload_n 2, 1) := by decide +kernel
theorem dL_law_164 : decode cL_law 164 = .ok (.aload_n 0, 1) := by decide +kernel
theorem dL_law_165 : decode cL_law 165 = .ok (.iload_n 3, 1) := by decide +kernel
theorem dL_law_166 : decode cL_law 166 = .ok (.iconst 1, 1) := by decide +kernel
theorem dL_law_167 : decode cL_law 167 = .ok (.iadd, 1) := by decide +kernel
theorem dL_law_168 : decode cL_law 168 = .ok (.iaload, 1) := by decide +kernel
theorem dL_law_169 : decode cL_law 169 = .ok (.aload_n 0, 1) := by decide +kernel
theorem dL_law_170 : decode cL_law 170 = .ok (.iload_n 3, 1) := by decide +kernel
theorem dL_law_171 : decode cL_law 171 = .ok (.iconst 2, 1) := by decide +kernel
theorem dL_law_172 : decode cL_law 172 = .ok (.iadd, 1) := by decide +kernel
theorem dL_law_173 : decode cL_law 173 = .ok (.iaload, 1) := by decide +kernel
theorem dL_law_174 : decode cL_law 174 = .ok (.invokevirtual 22, 3) := by decide +kernel
theorem dL_law_177 : decode cL_law 177 = .ok (.if_icmp .eq 631, 3) := by decide +kernel
theorem dL_law_180 : decode cL_law 180 = .ok (.iconst 0, 1) := by decide +kernel
theorem dL_law_181 : decode cL_law 181 = .ok (.ireturn, 1) := by decide +kernel
theorem dL_law_182 : decode cL_law 182 = .ok (.aload_n 1, 1) := by decide +kernel
theorem dL_law_183 : decode cL_law 183 = .ok (.aload_n 0, 1) := by decide +kernel
theorem dL_law_184 : decode cL_law 184 = .ok (.iload_n 3, 1) := by decide +kernel
theorem dL_law_185 : decode cL_law 185 = .ok (.iconst 1, 1) := by decide +kernel
theorem dL_law_186 : decode cL_law 186 = .ok (.iadd, 1) := by decide +kernel
theorem dL_law_187 : decode cL_law 187 = .ok (.iaload, 1) := by decide +kernel
theorem dL_law_188 : decode cL_law 188 = .ok (.aload_n 0, 1) := by decide +kernel
theorem dL_law_189 : decode cL_law 189 = .ok (.iload_n 3, 1) := by decide +kernel
theorem dL_law_190 : decode cL_law 190 = .ok (.iconst 2, 1) := by decide +kernel
theorem dL_law_191 : decode cL_law 191 = .ok (.iadd, 1) := by decide +kernel
theorem dL_law_192 : decode cL_law 192 = .ok (.iaload, 1) := by decide +kernel
theorem dL_law_193 : decode cL_law 193 = .ok (.invokevirtual 23, 3) := by decide +kernel
theorem dL_law_196 : decode cL_law 196 = .ok (.aload_n 2, 1) := by decide +kernel
theorem dL_law_197 : decode cL_law 197 = .ok (.aload_n 0, 1) := by decide +kernel
theorem dL_law_198 : decode cL_law 198 = .ok (.iload_n 3, 1) := by decide +kernel
