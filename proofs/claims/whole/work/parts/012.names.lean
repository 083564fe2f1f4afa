theorem dX0_forget_0 : decode cX0_forget 0 = .ok (.aload_n 0, 1) := by decide +kernel
theorem dX0_forget_1 : decode cX0_forget 1 = .ok (.iconst 0, 1) := by decide +kernel
theorem dX0_forget_2 : decode cX0_forget 2 = .ok (.putfield 49, 3) := by decide +kernel
theorem dX0_forget_5 : decode cX0_forget 5 = .ok (.aload_n 0, 1) := by decide +kernel
theorem dX0_forget_6 : decode cX0_forget 6 = .ok (.iconst 0, 1) := by decide +kernel
theorem dX0_forget_7 : decode cX0_forget 7 = .ok (.putfield 53, 3) := by decide +kernel
theorem dX0_forget_10 : decode cX0_forget 10 = .ok (.return_, 1) := by decide +kernel
set_option maxRecDepth 20000 in
theorem ggX0_fits_X0_raise : GoodIn wsX0_fits wsX0_raise := goodIn_r _ [14] (by decide +kernel) (by decide +kernel)
set_option maxRecDepth 20000 in
theorem gX0_fits_X0_raise : GoodIn wsX0_fits (va_wsS RX0 97 yX0_raise wsX0_raise) := goodIn_app (goodIn_of _ (by decide +kernel)) ggX0_fits_X0_raise
set_option maxRecDepth 20000 in
theorem ggX0_fits_X0_climb : GoodIn wsX0_fits wsX0_climb := goodIn_r _ [18, 19, 20, 21, 2, 1, 4, 5, 11, 12, 13, 14, 22, 23, 24, 25, 26, 27, 28, 29, 30, 31, 32, 33, 34, 35] (by decide +kernel) (by decide +kernel)
set_option maxRecDepth 20000 in
theorem gX0_fits_X0_climb : GoodIn wsX0_fits (wsV RX0 83 RX0 yX0_climb wsX0_climb) := goodIn_app (goodIn_of _ (by decide +kernel)) ggX0_fits_X0_climb
theorem dX0_fits_0 : decode cX0_fits 0 = .ok (.aload_n 0, 1) := by decide +kernel
theorem dX0_fits_1 : decode cX0_fits 1 = .ok (.getfield 21, 3) := by decide +kernel
theorem dX0_fits_4 : decode cX0_fits 4 = .ok (.iload_n 1, 1) := by decide +kernel
theorem dX0_fits_5 : decode cX0_fits 5 = .ok (.iaload, 1) := by decide +kernel
theorem dX0_fits_6 : decode cX0_fits 6 = .ok (.istore_n 2, 1) := by decide +kernel
theorem dX0_fits_7 : decode cX0_fits 7 = .ok (.aload_n 0, 1) := by decide +kernel
theorem dX0_fits_8 : decode cX0_fits 8 = .ok (.getfield 25, 3) := by decide +kernel
theorem dX0_fits_11 : decode cX0_fits 11 = .ok (.iload_n 1, 1) := by decide +kernel
theorem dX0_fits_12 : decode cX0_fits 12 = .ok (.iaload, 1) := by decide +kernel
theorem dX0_fits_13 : decode cX0_fits 13 = .ok (.istore_n 3, 1) := by decide +kernel
theorem dX0_fits_14 : decode cX0_fits 14 = .ok (.aload_n 0, 1) := by decide +kernel
theorem dX0_fits_15 : decode cX0_fits 15 = .ok (.getfield 43, 3) := by decide +kernel
theorem dX0_fits_18 : decode cX0_fits 18 = .ok (.iload_n 3, 1) := by decide +kernel
theorem dX0_fits_19 : decode cX0_fits 19 = .ok (.iaload, 1) := by decide +kernel
theorem dX0_fits_20 : decode cX0_fits 20 = .ok (.aload_n 0, 1) := by decide +kernel
theorem dX0_fits_21 : decode cX0_fits 21 = .ok (.getfield 43, 3) := by decide +kernel
theorem dX0_fits_24 : decode cX0_fits 24 = .ok (.iload_n 2, 1) := by decide +kernel
theorem dX0_fits_25 : decode cX0_fits 25 = .ok (.iaload, 1) := by decide +kernel
theorem dX0_fits_26 : decode cX0_fits 26 = .ok (.isub, 1) := by decide +kernel
theorem dX0_fits_27 : decode cX0_fits 27 = .ok (.istore 4, 2) := by decide +kernel
theorem dX0_fits_29 : decode cX0_fits 29 = .ok (.iload 4, 2) := by decide +kernel
theorem dX0_fits_31 : decode cX0_fits 31 = .ok (.aload_n 0, 1) := by decide +kernel
theorem dX0_fits_32 : decode cX0_fits 32 = .ok (.getfield 28, 3) := by decide +kernel
theorem dX0_fits_35 : decode cX0_fits 35 = .ok (.iload_n 1, 1) := by decide +kernel
theorem dX0_fits_36 : decode cX0_fits 36 = .ok (.iaload, 1) := by decide +kernel
theorem dX0_fits_37 : decode cX0_fits 37 = .ok (.if_icmp .lt 16, 3) := by decide +kernel
theorem dX0_fits_40 : decode cX0_fits 40 = .ok (.iload 4, 2) := by decide +kernel
theorem dX0_fits_42 : decode cX0_fits 42 = .ok (.aload_n 0, 1) := by decide +kernel
theorem dX0_fits_43 : decode cX0_fits 43 = .ok (.getfield 31, 3) := by decide +kernel
theorem dX0_fits_46 : decode cX0_fits 46 = .ok (.iload_n 1, 1) := by decide +kernel
theorem dX0_fits_47 : decode cX0_fits 47 = .ok (.iaload, 1) := by decide +kernel
theorem dX0_fits_48 : decode cX0_fits 48 = .ok (.if_icmp .gt 5, 3) := by decide +kernel
theorem dX0_fits_51 : decode cX0_fits 51 = .ok (.iconst 1, 1) := by decide +kernel
theorem dX0_fits_52 : decode cX0_fits 52 = .ok (.ireturn, 1) := by decide +kernel
theorem dX0_fits_53 : decode cX0_fits 53 = .ok (.iload 4, 2) := by decide +kernel
theorem dX0_fits_55 : decode cX0_fits 55 = .ok (.aload_n 0, 1) := by decide +kernel
theorem dX0_fits_56 : decode cX0_fits 56 = .ok (.getfield 28, 3) := by decide +kernel
theorem dX0_fits_59 : decode cX0_fits 59 = .ok (.iload_n 1, 1) := by decide +kernel
theorem dX0_fits_60 : decode cX0_fits 60 = .ok (.iaload, 1) := by decide +kernel
theorem dX0_fits_61 : decode cX0_fits 61 = .ok (.if_icmp .ge 7, 3) := by decide +kernel
theorem dX0_fits_64 : decode cX0_fits 64 = .ok (.iconst 1, 1) := by decide +kernel
theorem dX0_fits_65 : decode cX0_fits 65 = .ok (.goto 4, 3) := by decide +kernel
theorem dX0_fits_68 : decode cX0_fits 68 = .ok (.iconst 0, 1) := by decide +kernel
theorem dX0_fits_69 : decode cX0_fits 69 = .ok (.istore 5, 2) := by decide +kernel
theorem dX0_fits_71 : decode cX0_fits 71 = .ok (.iload 5, 2) := by decide +kernel
theorem dX0_fits_73 : decode cX0_fits 73 = .ok (.ifCond .eq 7, 3) := by decide +kernel
theorem dX0_fits_76 : decode cX0_fits 76 = .ok (.iload_n 3, 1) := by decide +kernel
theorem dX0_fits_77 : decode cX0_fits 77 = .ok (.goto 4, 3) := by decide +kernel
theorem dX0_fits_80 : decode cX0_fits 80 = .ok (.iload_n 2, 1) := by decide +kernel
theorem dX0_fits_81 : decode cX0_fits 81 = .ok (.istore 6, 2) := by decide +kernel
theorem dX0_fits_83 : decode cX0_fits 83 = .ok (.iload 5, 2) := by decide +kernel
theorem dX0_fits_85 : decode cX0_fits 85 = .ok (.ifCond .eq 7, 3) := by decide +kernel
theorem dX0_fits_88 : decode cX0_fits 88 = .ok (.iload_n 2, 1) := by decide +kernel
theorem dX0_fits_89 : decode cX0_fits 89 = .ok (.goto 4, 3) := by decide +kernel
theorem dX0_fits_92 : decode cX0_fits 92 = .ok (.iload_n 3, 1) := by decide +kernel
theorem dX0_fits_93 : decode cX0_fits 93 = .ok (.istore 7, 2) := by decide +kernel
theorem dX0_fits_95 : decode cX0_fits 95 = .ok (.iload 5, 2) := by decide +kernel
theorem dX0_fits_97 : decode cX0_fits 97 = .ok (.ifCond .eq 19, 3) := by decide +kernel
theorem dX0_fits_100 : decode cX0_fits 100 = .ok (.aload_n 0, 1) := by decide +kernel
theorem dX0_fits_101 : decode cX0_fits 101 = .ok (.getfield 43, 3) := by decide +kernel
theorem dX0_fits_104 : decode cX0_fits 104 = .ok (.iload_n 2, 1) := by decide +kernel
theorem dX0_fits_105 : decode cX0_fits 105 = .ok (.iaload, 1) := by decide +kernel
theorem dX0_fits_106 : decode cX0_fits 106 = .ok (.aload_n 0, 1) := by decide +kernel
theorem dX0_fits_107 : decode cX0_fits 107 = .ok (.getfield 28, 3) := by decide +kernel
theorem dX0_fits_110 : decode cX0_fits 110 = .ok (.iload_n 1, 1) := by decide +kernel
theorem dX0_fits_111 : decode cX0_fits 111 = .ok (.iaload, 1) := by decide +kernel
theorem dX0_fits_112 : decode cX0_fits 112 = .ok (.iadd, 1) := by decide +kernel
theorem dX0_fits_113 : decode cX0_fits 113 = .ok (.goto 16, 3) := by decide +kernel
theorem dX0_fits_116 : decode cX0_fits 116 = .ok (.aload_n 0, 1) := by decide +kernel
theorem dX0_fits_117 : decode cX0_fits 117 = .ok (.getfield 43, 3) := by decide +kernel
theorem dX0_fits_120 : decode cX0_fits 120 = .ok (.iload_n 3, 1) := by decide +kernel
theorem dX0_fits_121 : decode cX0_fits 121 = .ok (.iaload, 1) := by decide +kernel
theorem dX0_fits_122 : decode cX0_fits 122 = .ok (.aload_n 0, 1) := by decide +kernel
theorem dX0_fits_123 : decode cX0_fits 123 = .ok (.getfield 31, 3) := by decide +kernel
theorem dX0_fits_126 : decode cX0_fits 126 = .ok (.iload_n 1, 1) := by decide +kernel
theorem dX0_fits_127 : decode cX0_fits 127 = .ok (.iaload, 1) := by decide +kernel
theorem dX0_fits_128 : decode cX0_fits 128 = .ok (.isub, 1) := by decide +kernel
theorem dX0_fits_129 : decode cX0_fits 129 = .ok (.istore 8, 2) := by decide +kernel
theorem dX0_fits_131 : decode cX0_fits 131 = .ok (.aload_n 0, 1) := by decide +kernel
theorem dX0_fits_132 : decode cX0_fits 132 = .ok (.getfield 43, 3) := by decide +kernel
theorem dX0_fits_135 : decode cX0_fits 135 = .ok (.iconst 0, 1) := by decide +kernel
theorem dX0_fits_136 : decode cX0_fits 136 = .ok (.aload_n 0, 1) := by decide +kernel
theorem dX0_fits_137 : decode cX0_fits 137 = .ok (.getfield 46, 3) := by decide +kernel
theorem dX0_fits_140 : decode cX0_fits 140 = .ok (.iconst 0, 1) := by decide +kernel
theorem dX0_fits_141 : decode cX0_fits 141 = .ok (.bipush 65, 2) := by decide +kernel
theorem dX0_fits_143 : decode cX0_fits 143 = .ok (.invokestatic 87, 3) := by decide +kernel
theorem dX0_fits_146 : decode cX0_fits 146 = .ok (.aload_n 0, 1) := by decide +kernel
theorem dX0_fits_147 : decode cX0_fits 147 = .ok (.getfield 46, 3) := by decide +kernel
theorem dX0_fits_150 : decode cX0_fits 150 = .ok (.iload 6, 2) := by decide +kernel
theorem dX0_fits_152 : decode cX0_fits 152 = .ok (.iload 8, 2) := by decide +kernel
theorem dX0_fits_154 : decode cX0_fits 154 = .ok (.invokestatic 97, 3) := by decide +kernel
theorem dX0_fits_157 : decode cX0_fits 157 = .ok (.pop, 1) := by decide +kernel
theorem dX0_fits_158 : decode cX0_fits 158 = .ok (.aload_n 0, 1) := by decide +kernel
theorem dX0_fits_159 : decode cX0_fits 159 = .ok (.aload_n 0, 1) := by decide +kernel
theorem dX0_fits_160 : decode cX0_fits 160 = .ok (.getfield 46, 3) := by decide +kernel
theorem dX0_fits_163 : decode cX0_fits 163 = .ok (.iload 7, 2) := by decide +kernel
theorem dX0_fits_165 : decode cX0_fits 165 = .ok (.aload_n 0, 1) := by decide +kernel
theorem dX0_fits_166 : decode cX0_fits 166 = .ok (.getfield 43, 3) := by decide +kernel
theorem dX0_fits_169 : decode cX0_fits 169 = .ok (.iload 7, 2) := by decide +kernel
theorem dX0_fits_171 : decode cX0_fits 171 = .ok (.iaload, 1) := by decide +kernel
theorem dX0_fits_172 : decode cX0_fits 172 = .ok (.invokevirtual 83, 3) := by decide +kernel
theorem dX0_fits_175 : decode cX0_fits 175 = .ok (.ifCond .ne 5, 3) := by decide +kernel
theorem dX0_fits_178 : decode cX0_fits 178 = .ok (.iconst 0, 1) := by decide +kernel
theorem dX0_fits_179 : decode cX0_fits 179 = .ok (.ireturn, 1) := by decide +kernel
theorem dX0_fits_180 : decode cX0_fits 180 = .ok (.aload_n 0, 1) := by decide +kernel
theorem dX0_fits_181 : decode cX0_fits 181 = .ok (.getfield 46, 3) := by decide +kernel
theorem dX0_fits_184 : decode cX0_fits 184 = .ok (.iconst 0, 1) := by decide +kernel
theorem dX0_fits_185 : decode cX0_fits 185 = .ok (.aload_n 0, 1) := by decide +kernel
theorem dX0_fits_186 : decode cX0_fits 186 = .ok (.getfield 43, 3) := by decide +kernel
theorem dX0_fits_189 : decode cX0_fits 189 = .ok (.iconst 0, 1) := by decide +kernel
theorem dX0_fits_190 : decode cX0_fits 190 = .ok (.bipush 65, 2) := by decide +kernel
theorem dX0_fits_192 : decode cX0_fits 192 = .ok (.invokestatic 87, 3) := by decide +kernel
theorem dX0_fits_195 : decode cX0_fits 195 = .ok (.iconst 1, 1) := by decide +kernel
theorem dX0_fits_196 : decode cX0_fits 196 = .ok (.ireturn, 1) := by decide +kernel
set_option maxRecDepth 20000 in
theorem ggX0_climb_X0_raise : GoodIn wsX0_climb wsX0_raise := goodIn_r _ [11] (by decide +kernel) (by decide +kernel)
set_option maxRecDepth 20000 in
theorem gX0_climb_X0_raise : GoodIn wsX0_climb (va_wsS RX0 97 yX0_raise wsX0_raise) := goodIn_app (goodIn_of _ (by decide +kernel)) ggX0_climb_X0_raise
theorem dX0_climb_0 : decode cX0_climb 0 = .ok (.iconst 1, 1) := by decide +kernel
theorem dX0_climb_1 : decode cX0_climb 1 = .ok (.istore 4, 2) := by decide +kernel
theorem dX0_climb_3 : decode cX0_climb 3 = .ok (.iconst 0, 1) := by decide +kernel
theorem dX0_climb_4 : decode cX0_climb 4 = .ok (.istore 5, 2) := by decide +kernel
theorem dX0_climb_6 : decode cX0_climb 6 = .ok (.iload 5, 2) := by decide +kernel
theorem dX0_climb_8 : decode cX0_climb 8 = .ok (.bipush 66, 2) := by decide +kernel
theorem dX0_climb_10 : decode cX0_climb 10 = .ok (.if_icmp .ge 156, 3) := by decide +kernel
theorem dX0_climb_13 : decode cX0_climb 13 = .ok (.iload 4, 2) := by decide +kernel
theorem dX0_climb_15 : decode cX0_climb 15 = .ok (.ifCond .eq 151, 3) := by decide +kernel
theorem dX0_climb_18 : decode cX0_climb 18 = .ok (.aload_n 1, 1) := by decide +kernel
theorem dX0_climb_19 : decode cX0_climb 19 = .ok (.iload_n 2, 1) := by decide +kernel
theorem dX0_climb_20 : decode cX0_climb 20 = .ok (.iaload, 1) := by decide +kernel
theorem dX0_climb_21 : decode cX0_climb 21 = .ok (.iload_n 3, 1) := by decide +kernel
theorem dX0_climb_22 : decode cX0_climb 22 = .ok (.if_icmp .gt 144, 3) := by decide +kernel
theorem dX0_climb_25 : decode cX0_climb 25 = .ok (.aload_n 1, 1) := by decide +kernel
theorem dX0_climb_26 : decode cX0_climb 26 = .ok (.iconst 0, 1) := by decide +kernel
theorem dX0_climb_27 : decode cX0_climb 27 = .ok (.aload_n 1, 1) := by decide +kernel
theorem dX0_climb_28 : decode cX0_climb 28 = .ok (.bipush 64, 2) := by decide +kernel
theorem dX0_climb_30 : decode cX0_climb 30 = .ok (.iaload, 1) := by decide +kernel
theorem dX0_climb_31 : decode cX0_climb 31 = .ok (.aload_n 0, 1) := by decide +kernel
theorem dX0_climb_32 : decode cX0_climb 32 = .ok (.getfield 9, 3) := by decide +kernel
theorem dX0_climb_35 : decode cX0_climb 35 = .ok (.isub, 1) := by decide +kernel
theorem dX0_climb_36 : decode cX0_climb 36 = .ok (.invokestatic 97, 3) := by decide +kernel
theorem dX0_climb_39 : decode cX0_climb 39 = .ok (.istore 4, 2) := by decide +kernel
theorem dX0_climb_41 : decode cX0_climb 41 = .ok (.aload_n 1, 1) := by decide +kernel
theorem dX0_climb_42 : decode cX0_climb 42 = .ok (.bipush 64, 2) := by decide +kernel
theorem dX0_climb_44 : decode cX0_climb 44 = .ok (.aload_n 1, 1) := by decide +kernel
theorem dX0_climb_45 : decode cX0_climb 45 = .ok (.iconst 0, 1) := by decide +kernel
theorem dX0_climb_46 : decode cX0_climb 46 = .ok (.iaload, 1) := by decide +kernel
theorem dX0_climb_47 : decode cX0_climb 47 = .ok (.aload_n 0, 1) := by decide +kernel
theorem dX0_climb_48 : decode cX0_climb 48 = .ok (.getfield 9, 3) := by decide +kernel
theorem dX0_climb_51 : decode cX0_climb 51 = .ok (.iadd, 1) := by decide +kernel
theorem dX0_climb_52 : decode cX0_climb 52 = .ok (.invokestatic 97, 3) := by decide +kernel
theorem dX0_climb_55 : decode cX0_climb 55 = .ok (.ifCond .eq 6, 3) := by decide +kernel
theorem dX0_climb_58 : decode cX0_climb 58 = .ok (.iconst 1, 1) := by decide +kernel
theorem dX0_climb_59 : decode cX0_climb 59 = .ok (.istore 4, 2) := by decide +kernel
theorem dX0_climb_61 : decode cX0_climb 61 = .ok (.iconst 0, 1) := by decide +kernel
theorem dX0_climb_62 : decode cX0_climb 62 = .ok (.istore 6, 2) := by decide +kernel
theorem dX0_climb_64 : decode cX0_climb 64 = .ok (.iload 6, 2) := by decide +kernel
theorem dX0_climb_66 : decode cX0_climb 66 = .ok (.aload_n 0, 1) := by decide +kernel
theorem dX0_climb_67 : decode cX0_climb 67 = .ok (.getfield 15, 3) := by decide +kernel
theorem dX0_climb_70 : decode cX0_climb 70 = .ok (.if_icmp .ge 90, 3) := by decide +kernel
theorem dX0_climb_73 : decode cX0_climb 73 = .ok (.aload_n 0, 1) := by decide +kernel
theorem dX0_climb_74 : decode cX0_climb 74 = .ok (.getfield 34, 3) := by decide +kernel
theorem dX0_climb_77 : decode cX0_climb 77 = .ok (.iload 6, 2) := by decide +kernel
theorem dX0_climb_79 : decode cX0_climb 79 = .ok (.iaload, 1) := by decide +kernel
theorem dX0_climb_80 : decode cX0_climb 80 = .ok (.ifCond .eq 6, 3) := by decide +kernel
theorem dX0_climb_83 : decode cX0_climb 83 = .ok (.goto 71, 3) := by decide +kernel
theorem dX0_climb_86 : decode cX0_climb 86 = .ok (.aload_n 1, 1) := by decide +kernel
theorem dX0_climb_87 : decode cX0_climb 87 = .ok (.aload_n 0, 1) := by decide +kernel
theorem dX0_climb_88 : decode cX0_climb 88 = .ok (.getfield 25, 3) := by decide +kernel
theorem dX0_climb_91 : decode cX0_climb 91 = .ok (.iload 6, 2) := by decide +kernel
theorem dX0_climb_93 : decode cX0_climb 93 = .ok (.iaload, 1) := by decide +kernel
theorem dX0_climb_94 : decode cX0_climb 94 = .ok (.aload_n 1, 1) := by decide +kernel
theorem dX0_climb_95 : decode cX0_climb 95 = .ok (.aload_n 0, 1) := by decide +kernel
theorem dX0_climb_96 : decode cX0_climb 96 = .ok (.getfield 21, 3) := by decide +kernel
theorem dX0_climb_99 : decode cX0_climb 99 = .ok (.iload 6, 2) := by decide +kernel
theorem dX0_climb_101 : decode cX0_climb 101 = .ok (.iaload, 1) := by decide +kernel
theorem dX0_climb_102 : decode cX0_climb 102 = .ok (.iaload, 1) := by decide +kernel
theorem dX0_climb_103 : decode cX0_climb 103 = .ok (.aload_n 0, 1) := by decide +kernel
theorem dX0_climb_104 : decode cX0_climb 104 = .ok (.getfield 28, 3) := by decide +kernel
theorem dX0_climb_107 : decode cX0_climb 107 = .ok (.iload 6, 2) := by decide +kernel
theorem dX0_climb_109 : decode cX0_climb 109 = .ok (.iaload, 1) := by decide +kernel
theorem dX0_climb_110 : decode cX0_climb 110 = .ok (.iadd, 1) := by decide +kernel
theorem dX0_climb_111 : decode cX0_climb 111 = .ok (.invokestatic 97, 3) := by decide +kernel
theorem dX0_climb_114 : decode cX0_climb 114 = .ok (.ifCond .eq 6, 3) := by decide +kernel
theorem dX0_climb_117 : decode cX0_climb 117 = .ok (.iconst 1, 1) := by decide +kernel
theorem dX0_climb_118 : decode cX0_climb 118 = .ok (.istore 4, 2) := by decide +kernel
theorem dX0_climb_120 : decode cX0_climb 120 = .ok (.aload_n 1, 1) := by decide +kernel
theorem dX0_climb_121 : decode cX0_climb 121 = .ok (.aload_n 0, 1) := by decide +kernel
theorem dX0_climb_122 : decode cX0_climb 122 = .ok (.getfield 21, 3) := by decide +kernel
theorem dX0_climb_125 : decode cX0_climb 125 = .ok (.iload 6, 2) := by decide +kernel
theorem dX0_climb_127 : decode cX0_climb 127 = .ok (.iaload, 1) := by decide +kernel
theorem dX0_climb_128 : decode cX0_climb 128 = .ok (.aload_n 1, 1) := by decide +kernel
theorem dX0_climb_129 : decode cX0_climb 129 = .ok (.aload_n 0, 1) := by decide +kernel
theorem dX0_climb_130 : decode cX0_climb 130 = .ok (.getfield 25, 3) := by decide +kernel
theorem dX0_climb_133 : decode cX0_climb 133 = .ok (.iload 6, 2) := by decide +kernel
theorem dX0_climb_135 : decode cX0_climb 135 = .ok (.iaload, 1) := by decide +kernel
theorem dX0_climb_136 : decode cX0_climb 136 = .ok (.iaload, 1) := by decide +kernel
theorem dX0_climb_137 : decode cX0_climb 137 = .ok (.aload_n 0, 1) := by decide +kernel
theorem dX0_climb_138 : decode cX0_climb 138 = .ok (.getfield 31, 3) := by decide +kernel
theorem dX0_climb_141 : decode cX0_climb 141 = .ok (.iload 6, 2) := by decide +kernel
theorem dX0_climb_143 : decode cX0_climb 143 = .ok (.iaload, 1) := by decide +kernel
theorem dX0_climb_144 : decode cX0_climb 144 = .ok (.isub, 1) := by decide +kernel
theorem dX0_climb_145 : decode cX0_climb 145 = .ok (.invokestatic 97, 3) := by decide +kernel
theorem dX0_climb_148 : decode cX0_climb 148 = .ok (.ifCond .eq 6, 3) := by decide +kernel
theorem dX0_climb_151 : decode cX0_climb 151 = .ok (.iconst 1, 1) := by decide +kernel
theorem dX0_climb_152 : decode cX0_climb 152 = .ok (.istore 4, 2) := by decide +kernel
theorem dX0_climb_154 : decode cX0_climb 154 = .ok (.iinc 6 1, 3) := by decide +kernel
theorem dX0_climb_157 : decode cX0_climb 157 = .ok (.goto (-93), 3) := by decide +kernel
theorem dX0_climb_160 : decode cX0_climb 160 = .ok (.iinc 5 1, 3) := by decide +kernel
theorem dX0_climb_163 : decode cX0_climb 163 = .ok (.goto (-157), 3) := by decide +kernel
theorem dX0_climb_166 : decode cX0_climb 166 = .ok (.aload_n 1, 1) := by decide +kernel
theorem dX0_climb_167 : decode cX0_climb 167 = .ok (.iload_n 2, 1) := by decide +kernel
theorem dX0_climb_168 : decode cX0_climb 168 = .ok (.iaload, 1) := by decide +kernel
theorem dX0_climb_169 : decode cX0_climb 169 = .ok (.iload_n 3, 1) := by decide +kernel
theorem dX0_climb_170 : decode cX0_climb 170 = .ok (.if_icmp .gt 7, 3) := by decide +kernel
theorem dX0_climb_173 : decode cX0_climb 173 = .ok (.iconst 1, 1) := by decide +kernel
theorem dX0_climb_174 : decode cX0_climb 174 = .ok (.goto 4, 3) := by decide +kernel
theorem dX0_climb_177 : decode cX0_climb 177 = .ok (.iconst 0, 1) := by decide +kernel
theorem dX0_climb_178 : decode cX0_climb 178 = .ok (.ireturn, 1) := by decide +kernel
set_option maxRecDepth 20000 in
theorem ggX0_sink_X0_lower : GoodIn wsX0_sink wsX0_lower := goodIn_r _ [10] (by decide +kernel) (by decide +kernel)
set_option maxRecDepth 20000 in
theorem gX0_sink_X0_lower : GoodIn wsX0_sink (va_wsS RX0 100 yX0_lower wsX0_lower) := goodIn_app (goodIn_of _ (by decide +kernel)) ggX0_sink_X0_lower
theorem dX0_sink_0 : decode cX0_sink 0 = .ok (.iconst 1, 1) := by decide +kernel
theorem dX0_sink_1 : decode cX0_sink 1 = .ok (.istore_n 2, 1) := by decide +kernel
theorem dX0_sink_2 : decode cX0_sink 2 = .ok (.iconst 0, 1) := by decide +kernel
theorem dX0_sink_3 : decode cX0_sink 3 = .ok (.istore_n 3, 1) := by decide +kernel
theorem dX0_sink_4 : decode cX0_sink 4 = .ok (.iload_n 3, 1) := by decide +kernel
theorem dX0_sink_5 : decode cX0_sink 5 = .ok (.bipush 66, 2) := by decide +kernel
theorem dX0_sink_7 : decode cX0_sink 7 = .ok (.if_icmp .ge 112, 3) := by decide +kernel
theorem dX0_sink_10 : decode cX0_sink 10 = .ok (.iload_n 2, 1) := by decide +kernel
theorem dX0_sink_11 : decode cX0_sink 11 = .ok (.ifCond .eq 108, 3) := by decide +kernel
theorem dX0_sink_14 : decode cX0_sink 14 = .ok (.iconst 0, 1) := by decide +kernel
theorem dX0_sink_15 : decode cX0_sink 15 = .ok (.istore_n 2, 1) := by decide +kernel
theorem dX0_sink_16 : decode cX0_sink 16 = .ok (.iconst 0, 1) := by decide +kernel
theorem dX0_sink_17 : decode cX0_sink 17 = .ok (.istore 4, 2) := by decide +kernel
theorem dX0_sink_19 : decode cX0_sink 19 = .ok (.iload 4, 2) := by decide +kernel
theorem dX0_sink_21 : decode cX0_sink 21 = .ok (.aload_n 0, 1) := by decide +kernel
theorem dX0_sink_22 : decode cX0_sink 22 = .ok (.getfield 15, 3) := by decide +kernel
theorem dX0_sink_25 : decode cX0_sink 25 = .ok (.if_icmp .ge 88, 3) := by decide +kernel
theorem dX0_sink_28 : decode cX0_sink 28 = .ok (.aload_n 0, 1) := by decide +kernel
theorem dX0_sink_29 : decode cX0_sink 29 = .ok (.getfield 34, 3) := by decide +kernel
theorem dX0_sink_32 : decode cX0_sink 32 = .ok (.iload 4, 2) := by decide +kernel
theorem dX0_sink_34 : decode cX0_sink 34 = .ok (.iaload, 1) := by decide +kernel
theorem dX0_sink_35 : decode cX0_sink 35 = .ok (.ifCond .eq 6, 3) := by decide +kernel
theorem dX0_sink_38 : decode cX0_sink 38 = .ok (.goto 69, 3) := by decide +kernel
theorem dX0_sink_41 : decode cX0_sink 41 = .ok (.aload_n 1, 1) := by decide +kernel
theorem dX0_sink_42 : decode cX0_sink 42 = .ok (.aload_n 0, 1) := by decide +kernel
theorem dX0_sink_43 : decode cX0_sink 43 = .ok (.getfield 21, 3) := by decide +kernel
theorem dX0_sink_46 : decode cX0_sink 46 = .ok (.iload 4, 2) := by decide +kernel
theorem dX0_sink_48 : decode cX0_sink 48 = .ok (.iaload, 1) := by decide +kernel
theorem dX0_sink_49 : decode cX0_sink 49 = .ok (.aload_n 1, 1) := by decide +kernel
theorem dX0_sink_50 : decode cX0_sink 50 = .ok (.aload_n 0, 1) := by decide +kernel
theorem dX0_sink_51 : decode cX0_sink 51 = .ok (.getfield 25, 3) := by decide +kernel
theorem dX0_sink_54 : decode cX0_sink 54 = .ok (.iload 4, 2) := by decide +kernel
theorem dX0_sink_56 : decode cX0_sink 56 = .ok (.iaload, 1) := by decide +kernel
theorem dX0_sink_57 : decode cX0_sink 57 = .ok (.iaload, 1) := by decide +kernel
theorem dX0_sink_58 : decode cX0_sink 58 = .ok (.aload_n 0, 1) := by decide +kernel
theorem dX0_sink_59 : decode cX0_sink 59 = .ok (.getfield 28, 3) := by decide +kernel
theorem dX0_sink_62 : decode cX0_sink 62 = .ok (.iload 4, 2) := by decide +kernel
theorem dX0_sink_64 : decode cX0_sink 64 = .ok (.iaload, 1) := by decide +kernel
theorem dX0_sink_65 : decode cX0_sink 65 = .ok (.isub, 1) := by decide +kernel
theorem dX0_sink_66 : decode cX0_sink 66 = .ok (.invokestatic 100, 3) := by decide +kernel
theorem dX0_sink_69 : decode cX0_sink 69 = .ok (.ifCond .eq 5, 3) := by decide +kernel
theorem dX0_sink_72 : decode cX0_sink 72 = .ok (.iconst 1, 1) := by decide +kernel
theorem dX0_sink_73 : decode cX0_sink 73 = .ok (.istore_n 2, 1) := by decide +kernel
theorem dX0_sink_74 : decode cX0_sink 74 = .ok (.aload_n 1, 1) := by decide +kernel
theorem dX0_sink_75 : decode cX0_sink 75 = .ok (.aload_n 0, 1) := by decide +kernel
theorem dX0_sink_76 : decode cX0_sink 76 = .ok (.getfield 25, 3) := by decide +kernel
theorem dX0_sink_79 : decode cX0_sink 79 = .ok (.iload 4, 2) := by decide +kernel
theorem dX0_sink_81 : decode cX0_sink 81 = .ok (.iaload, 1) := by decide +kernel
theorem dX0_sink_82 : decode cX0_sink 82 = .ok (.aload_n 1, 1) := by decide +kernel
theorem dX0_sink_83 : decode cX0_sink 83 = .ok (.aload_n 0, 1) := by decide +kernel
theorem dX0_sink_84 : decode cX0_sink 84 = .ok (.getfield 21, 3) := by decide +kernel
theorem dX0_sink_87 : decode cX0_sink 87 = .ok (.iload 4, 2) := by decide +kernel
theorem dX0_sink_89 : decode cX0_sink 89 = .ok (.iaload, 1) := by decide +kernel
theorem dX0_sink_90 : decode cX0_sink 90 = .ok (.iaload, 1) := by decide +kernel
theorem dX0_sink_91 : decode cX0_sink 91 = .ok (.aload_n 0, 1) := by decide +kernel
theorem dX0_sink_92 : decode cX0_sink 92 = .ok (.getfield 31, 3) := by decide +kernel
theorem dX0_sink_95 : decode cX0_sink 95 = .ok (.iload 4, 2) := by decide +kernel
theorem dX0_sink_97 : decode cX0_sink 97 = .ok (.iaload, 1) := by decide +kernel
theorem dX0_sink_98 : decode cX0_sink 98 = .ok (.iadd, 1) := by decide +kernel
theorem dX0_sink_99 : decode cX0_sink 99 = .ok (.invokestatic 100, 3) := by decide +kernel
theorem dX0_sink_102 : decode cX0_sink 102 = .ok (.ifCond .eq 5, 3) := by decide +kernel
theorem dX0_sink_105 : decode cX0_sink 105 = .ok (.iconst 1, 1) := by decide +kernel
theorem dX0_sink_106 : decode cX0_sink 106 = .ok (.istore_n 2, 1) := by decide +kernel
theorem dX0_sink_107 : decode cX0_sink 107 = .ok (.iinc 4 1, 3) := by decide +kernel
theorem dX0_sink_110 : decode cX0_sink 110 = .ok (.goto (-91), 3) := by decide +kernel
theorem dX0_sink_113 : decode cX0_sink 113 = .ok (.iinc 3 1, 3) := by decide +kernel
theorem dX0_sink_116 : decode cX0_sink 116 = .ok (.goto (-112), 3) := by decide +kernel
theorem dX0_sink_119 : decode cX0_sink 119 = .ok (.return_, 1) := by decide +kernel
theorem dX0_raise_0 : decode cX0_raise 0 = .ok (.iconst 0, 1) := by decide +kernel
theorem dX0_raise_1 : decode cX0_raise 1 = .ok (.istore_n 3, 1) := by decide +kernel
theorem dX0_raise_2 : decode cX0_raise 2 = .ok (.iload_n 1, 1) := by decide +kernel
theorem dX0_raise_3 : decode cX0_raise 3 = .ok (.istore 4, 2) := by decide +kernel
theorem dX0_raise_5 : decode cX0_raise 5 = .ok (.iload 4, 2) := by decide +kernel
theorem dX0_raise_7 : decode cX0_raise 7 = .ok (.bipush 64, 2) := by decide +kernel
theorem dX0_raise_9 : decode cX0_raise 9 = .ok (.if_icmp .gt 24, 3) := by decide +kernel
theorem dX0_raise_12 : decode cX0_raise 12 = .ok (.aload_n 0, 1) := by decide +kernel
theorem dX0_raise_13 : decode cX0_raise 13 = .ok (.iload 4, 2) := by decide +kernel
theorem dX0_raise_15 : decode cX0_raise 15 = .ok (.iaload, 1) := by decide +kernel
theorem dX0_raise_16 : decode cX0_raise 16 = .ok (.iload_n 2, 1) := by decide +kernel
theorem dX0_raise_17 : decode cX0_raise 17 = .ok (.if_icmp .ge 16, 3) := by decide +kernel
theorem dX0_raise_20 : decode cX0_raise 20 = .ok (.aload_n 0, 1) := by decide +kernel
theorem dX0_raise_21 : decode cX0_raise 21 = .ok (.iload 4, 2) := by decide +kernel
theorem dX0_raise_23 : decode cX0_raise 23 = .ok (.iload_n 2, 1) := by decide +kernel
theorem dX0_raise_24 : decode cX0_raise 24 = .ok (.iastore, 1) := by decide +kernel
theorem dX0_raise_25 : decode cX0_raise 25 = .ok (.iconst 1, 1) := by decide +kernel
theorem dX0_raise_26 : decode cX0_raise 26 = .ok (.istore_n 3, 1) := by decide +kernel
theorem dX0_raise_27 : decode cX0_raise 27 = .ok (.iinc 4 1, 3) := by decide +kernel
theorem dX0_raise_30 : decode cX0_raise 30 = .ok (.goto (-25), 3) := by decide +kernel
theorem dX0_raise_33 : decode cX0_raise 33 = .ok (.iload_n 3, 1) := by decide +kernel
theorem dX0_raise_34 : decode cX0_raise 34 = .ok (.ireturn, 1) := by decide +kernel
theorem dX0_lower_0 : decode cX0_lower 0 = .ok (.iconst 0, 1) := by decide +kernel
theorem dX0_lower_1 : decode cX0_lower 1 = .ok (.istore_n 3, 1) := by decide +kernel
theorem dX0_lower_2 : decode cX0_lower 2 = .ok (.iload_n 1, 1) := by decide +kernel
theorem dX0_lower_3 : decode cX0_lower 3 = .ok (.istore 4, 2) := by decide +kernel
theorem dX0_lower_5 : decode cX0_lower 5 = .ok (.iload 4, 2) := by decide +kernel
theorem dX0_lower_7 : decode cX0_lower 7 = .ok (.ifCond .lt 24, 3) := by decide +kernel
theorem dX0_lower_10 : decode cX0_lower 10 = .ok (.aload_n 0, 1) := by decide +kernel
theorem dX0_lower_11 : decode cX0_lower 11 = .ok (.iload 4, 2) := by decide +kernel
theorem dX0_lower_13 : decode cX0_lower 13 = .ok (.iaload, 1) := by decide +kernel
theorem dX0_lower_14 : decode cX0_lower 14 = .ok (.iload_n 2, 1) := by decide +kernel
theorem dX0_lower_15 : decode cX0_lower 15 = .ok (.if_icmp .le 16, 3) := by decide +kernel
theorem dX0_lower_18 : decode cX0_lower 18 = .ok (.aload_n 0, 1) := by decide +kernel
theorem dX0_lower_19 : decode cX0_lower 19 = .ok (.iload 4, 2) := by decide +kernel
theorem dX0_lower_21 : decode cX0_lower 21 = .ok (.iload_n 2, 1) := by decide +kernel
theorem dX0_lower_22 : decode cX0_lower 22 = .ok (.iastore, 1) := by decide +kernel
theorem dX0_lower_23 : decode cX0_lower 23 = .ok (.iconst 1, 1) := by decide +kernel
theorem dX0_lower_24 : decode cX0_lower 24 = .ok (.istore_n 3, 1) := by decide +kernel
theorem dX0_lower_25 : decode cX0_lower 25 = .ok (.iinc 4 (-1), 3) := by decide +kernel
theorem dX0_lower_28 : decode cX0_lower 28 = .ok (.goto (-23), 3) := by decide +kernel
theorem dX0_lower_31 : decode cX0_lower 31 = .ok (.iload_n 3, 1) := by decide +kernel
theorem dX0_lower_32 : decode cX0_lower 32 = .ok (.ireturn, 1) := by decide +kernel
set_option maxRecDepth 20000 in
theorem ggX1_init_X0_init : GoodIn wsX1_init wsX0_init := goodIn_r _ [9, 10, 2, 3, 11, 12, 13, 14, 15, 16, 17, 18, 19, 20, 21, 22, 23, 24, 25, 27, 28, 29, 30, 31, 32, 33, 34, 35, 36, 37, 38, 39, 40] (by decide +kernel) (by decide +kernel)
set_option maxRecDepth 20000 in
theorem gX1_init_X0_init_n15 : GoodIn wsX1_init (wsX0_init) := ggX1_init_X0_init
theorem dX1_init_0 : decode cX1_init 0 = .ok (.aload_n 0, 1) := by decide +kernel
theorem dX1_init_1 : decode cX1_init 1 = .ok (.invokespecial 3, 3) := by decide +kernel
theorem dX1_init_4 : decode cX1_init 4 = .ok (.aload_n 0, 1) := by decide +kernel
theorem dX1_init_5 : decode cX1_init 5 = .ok (.iconst 3, 1) := by decide +kernel
theorem dX1_init_6 : decode cX1_init 6 = .ok (.anewarray 9, 3) := by decide +kernel
theorem dX1_init_9 : decode cX1_init 9 = .ok (.putfield 11, 3) := by decide +kernel
theorem dX1_init_12 : decode cX1_init 12 = .ok (.iconst 0, 1) := by decide +kernel
theorem dX1_init_13 : decode cX1_init 13 = .ok (.istore_n 1, 1) := by decide +kernel
theorem dX1_init_14 : decode cX1_init 14 = .ok (.iload_n 1, 1) := by decide +kernel
theorem dX1_init_15 : decode cX1_init 15 = .ok (.iconst 3, 1) := by decide +kernel
theorem dX1_init_16 : decode cX1_init 16 = .ok (.if_icmp .ge 22, 3) := by decide +kernel
theorem dX1_init_19 : decode cX1_init 19 = .ok (.aload_n 0, 1) := by decide +kernel
theorem dX1_init_20 : decode cX1_init 20 = .ok (.getfield 11, 3) := by decide +kernel
theorem dX1_init_23 : decode cX1_init 23 = .ok (.iload_n 1, 1) := by decide +kernel
theorem dX1_init_24 : decode cX1_init 24 = .ok (.new 9, 3) := by decide +kernel
theorem dX1_init_27 : decode cX1_init 27 = .ok (.dup, 1) := by decide +kernel
theorem dX1_init_28 : decode cX1_init 28 = .ok (.invokespecial 15, 3) := by decide +kernel
theorem dX1_init_31 : decode cX1_init 31 = .ok (.aastore, 1) := by decide +kernel
theorem dX1_init_32 : decode cX1_init 32 = .ok (.iinc 1 1, 3) := by decide +kernel
theorem dX1_init_35 : decode cX1_init 35 = .ok (.goto (-21), 3) := by decide +kernel
theorem dX1_init_38 : decode cX1_init 38 = .ok (.return_, 1) := by decide +kernel
set_option maxRecDepth 20000 in
theorem ggX1_rows_X1_tableAt : GoodIn wsX1_rows wsX1_tableAt := goodIn_r _ [6, 7, 21] (by decide +kernel) (by decide +kernel)
set_option maxRecDepth 20000 in
theorem gX1_rows_X1_tableAt : GoodIn wsX1_rows (wsV RX1 16 RX1 yX1_tableAt wsX1_tableAt) := goodIn_app (goodIn_of _ (by decide +kernel)) ggX1_rows_X1_tableAt
set_option maxRecDepth 20000 in
theorem ggX1_rows_X0_startAnew : GoodIn wsX1_rows wsX0_startAnew := goodIn_r _ [12, 13, 14, 15, 16, 17, 11, 18, 19, 20, 22, 23, 24, 25, 26, 27, 28, 29, 30, 31, 32, 33, 34, 35] (by decide +kernel) (by decide +kernel)
set_option maxRecDepth 20000 in
theorem gX1_rows_X0_startAnew : GoodIn wsX1_rows (wsV RX1 21 RX0 yX0_startAnew wsX0_startAnew) := goodIn_app (goodIn_of _ (by decide +kernel)) ggX1_rows_X0_startAnew
theorem dX1_rows_0 : decode cX1_rows 0 = .ok (.aload_n 0, 1) := by decide +kernel
theorem dX1_rows_1 : decode cX1_rows 1 = .ok (.iload_n 1, 1) := by decide +kernel
theorem dX1_rows_2 : decode cX1_rows 2 = .ok (.invokevirtual 16, 3) := by decide +kernel
theorem dX1_rows_5 : decode cX1_rows 5 = .ok (.astore_n 3, 1) := by decide +kernel
theorem dX1_rows_6 : decode cX1_rows 6 = .ok (.aload_n 3, 1) := by decide +kernel
theorem dX1_rows_7 : decode cX1_rows 7 = .ok (.ifnull 13, 3) := by decide +kernel
theorem dX1_rows_10 : decode cX1_rows 10 = .ok (.iload_n 2, 1) := by decide +kernel
theorem dX1_rows_11 : decode cX1_rows 11 = .ok (.ifCond .lt 9, 3) := by decide +kernel
theorem dX1_rows_14 : decode cX1_rows 14 = .ok (.iload_n 2, 1) := by decide +kernel
theorem dX1_rows_15 : decode cX1_rows 15 = .ok (.ldc 20, 2) := by decide +kernel
theorem dX1_rows_17 : decode cX1_rows 17 = .ok (.if_icmp .le 5, 3) := by decide +kernel
theorem dX1_rows_20 : decode cX1_rows 20 = .ok (.iconst 0, 1) := by decide +kernel
theorem dX1_rows_21 : decode cX1_rows 21 = .ok (.ireturn, 1) := by decide +kernel
theorem dX1_rows_22 : decode cX1_rows 22 = .ok (.aload_n 3, 1) := by decide +kernel
theorem dX1_rows_23 : decode cX1_rows 23 = .ok (.iload_n 2, 1) := by decide +kernel
theorem dX1_rows_24 : decode cX1_rows 24 = .ok (.invokevirtual 21, 3) := by decide +kernel
theorem dX1_rows_27 : decode cX1_rows 27 = .ok (.iconst 1, 1) := by decide +kernel
theorem dX1_rows_28 : decode cX1_rows 28 = .ok (.ireturn, 1) := by decide +kernel
set_option maxRecDepth 20000 in
theorem ggX1_put_X1_tableAt : GoodIn wsX1_put wsX1_tableAt := goodIn_r _ [7, 8, 43] (by decide +kernel) (by decide +kernel)
set_option maxRecDepth 20000 in
theorem gX1_put_X1_tableAt : GoodIn wsX1_put (wsV RX1 16 RX1 yX1_tableAt wsX1_tableAt) := goodIn_app (goodIn_of _ (by decide +kernel)) ggX1_put_X1_tableAt
set_option maxRecDepth 20000 in
theorem ggX1_put_X0_grow : GoodIn wsX1_put wsX0_grow := goodIn_r _ [13, 14, 15, 16, 17, 18, 19, 20, 21, 22, 23, 24, 25, 12, 26, 27, 28, 29, 30, 31, 32, 33, 34, 35, 36, 37, 38, 39, 40, 41, 42] (by decide +kernel) (by decide +kernel)
set_option maxRecDepth 20000 in
theorem gX1_put_X0_grow : GoodIn wsX1_put (wsV RX1 29 RX0 yX0_grow wsX0_grow) := goodIn_app (goodIn_of _ (by decide +kernel)) ggX1_put_X0_grow
theorem dX1_put_0 : decode cX1_put 0 = .ok (.aload_n 0, 1) := by decide +kernel
theorem dX1_put_1 : decode cX1_put 1 = .ok (.iload_n 1, 1) := by decide +kernel
theorem dX1_put_2 : decode cX1_put 2 = .ok (.invokevirtual 16, 3) := by decide +kernel
theorem dX1_put_5 : decode cX1_put 5 = .ok (.astore_n 3, 1) := by decide +kernel
theorem dX1_put_6 : decode cX1_put 6 = .ok (.aload_n 3, 1) := by decide +kernel
theorem dX1_put_7 : decode cX1_put 7 = .ok (.ifnull 19, 3) := by decide +kernel
theorem dX1_put_10 : decode cX1_put 10 = .ok (.iload_n 2, 1) := by decide +kernel
theorem dX1_put_11 : decode cX1_put 11 = .ok (.iconst 1, 1) := by decide +kernel
theorem dX1_put_12 : decode cX1_put 12 = .ok (.if_icmp .lt 14, 3) := by decide +kernel
theorem dX1_put_15 : decode cX1_put 15 = .ok (.iload_n 2, 1) := by decide +kernel
theorem dX1_put_16 : decode cX1_put 16 = .ok (.ldc 20, 2) := by decide +kernel
theorem dX1_put_18 : decode cX1_put 18 = .ok (.aload_n 3, 1) := by decide +kernel
theorem dX1_put_19 : decode cX1_put 19 = .ok (.getfield 25, 3) := by decide +kernel
theorem dX1_put_22 : decode cX1_put 22 = .ok (.isub, 1) := by decide +kernel
theorem dX1_put_23 : decode cX1_put 23 = .ok (.if_icmp .le 5, 3) := by decide +kernel
theorem dX1_put_26 : decode cX1_put 26 = .ok (.iconst (-1), 1) := by decide +kernel
theorem dX1_put_27 : decode cX1_put 27 = .ok (.ireturn, 1) := by decide +kernel
theorem dX1_put_28 : decode cX1_put 28 = .ok (.aload_n 3, 1) := by decide +kernel
theorem dX1_put_29 : decode cX1_put 29 = .ok (.iload_n 2, 1) := by decide +kernel
theorem dX1_put_30 : decode cX1_put 30 = .ok (.invokevirtual 29, 3) := by decide +kernel
theorem dX1_put_33 : decode cX1_put 33 = .ok (.aload_n 3, 1) := by decide +kernel
theorem dX1_put_34 : decode cX1_put 34 = .ok (.getfield 25, 3) := by decide +kernel
theorem dX1_put_37 : decode cX1_put 37 = .ok (.ireturn, 1) := by decide +kernel
set_option maxRecDepth 20000 in
theorem ggX1_strike_X1_tableAt : GoodIn wsX1_strike wsX1_tableAt := goodIn_r _ [6, 7, 40] (by decide +kernel) (by decide +kernel)
set_option maxRecDepth 20000 in
theorem gX1_strike_X1_tableAt : GoodIn wsX1_strike (wsV RX1 16 RX1 yX1_tableAt wsX1_tableAt) := goodIn_app (goodIn_of _ (by decide +kernel)) ggX1_strike_X1_tableAt
set_option maxRecDepth 20000 in
theorem ggX1_strike_X0_shrink : GoodIn wsX1_strike wsX0_shrink := goodIn_r _ [12, 13, 14, 15, 16, 17, 18, 19, 20, 21, 22, 11, 23, 24, 25, 26, 27, 28, 29, 30, 31, 32, 33, 34, 35, 36, 37, 38, 39] (by decide +kernel) (by decide +kernel)
set_option maxRecDepth 20000 in
theorem gX1_strike_X0_shrink : GoodIn wsX1_strike (wsV RX1 32 RX0 yX0_shrink wsX0_shrink) := goodIn_app (goodIn_of _ (by decide +kernel)) ggX1_strike_X0_shrink
theorem dX1_strike_0 : decode cX1_strike 0 = .ok (.aload_n 0, 1) := by decide +kernel
theorem dX1_strike_1 : decode cX1_strike 1 = .ok (.iload_n 1, 1) := by decide +kernel
theorem dX1_strike_2 : decode cX1_strike 2 = .ok (.invokevirtual 16, 3) := by decide +kernel
theorem dX1_strike_5 : decode cX1_strike 5 = .ok (.astore_n 3, 1) := by decide +kernel
theorem dX1_strike_6 : decode cX1_strike 6 = .ok (.aload_n 3, 1) := by decide +kernel
theorem dX1_strike_7 : decode cX1_strike 7 = .ok (.ifnull 16, 3) := by decide +kernel
theorem dX1_strike_10 : decode cX1_strike 10 = .ok (.iload_n 2, 1) := by decide +kernel
theorem dX1_strike_11 : decode cX1_strike 11 = .ok (.iconst 1, 1) := by decide +kernel
theorem dX1_strike_12 : decode cX1_strike 12 = .ok (.if_icmp .lt 11, 3) := by decide +kernel
theorem dX1_strike_15 : decode cX1_strike 15 = .ok (.iload_n 2, 1) := by decide +kernel
theorem dX1_strike_16 : decode cX1_strike 16 = .ok (.aload_n 3, 1) := by decide +kernel
theorem dX1_strike_17 : decode cX1_strike 17 = .ok (.getfield 25, 3) := by decide +kernel
theorem dX1_strike_20 : decode cX1_strike 20 = .ok (.if_icmp .le 5, 3) := by decide +kernel
theorem dX1_strike_23 : decode cX1_strike 23 = .ok (.iconst (-1), 1) := by decide +kernel
theorem dX1_strike_24 : decode cX1_strike 24 = .ok (.ireturn, 1) := by decide +kernel
theorem dX1_strike_25 : decode cX1_strike 25 = .ok (.aload_n 3, 1) := by decide +kernel
theorem dX1_strike_26 : decode cX1_strike 26 = .ok (.iload_n 2, 1) := by decide +kernel
theorem dX1_strike_27 : decode cX1_strike 27 = .ok (.invokevirtual 32, 3) := by decide +kernel
theorem dX1_strike_30 : decode cX1_strike 30 = .ok (.aload_n 3, 1) := by decide +kernel
theorem dX1_strike_31 : decode cX1_strike 31 = .ok (.getfield 25, 3) := by decide +kernel
theorem dX1_strike_34 : decode cX1_strike 34 = .ok (.ireturn, 1) := by decide +kernel
set_option maxRecDepth 20000 in
theorem ggX1_sight_X1_tableAt : GoodIn wsX1_sight wsX1_tableAt := goodIn_r _ [7, 8, 42] (by decide +kernel) (by decide +kernel)
set_option maxRecDepth 20000 in
theorem gX1_sight_X1_tableAt : GoodIn wsX1_sight (wsV RX1 16 RX1 yX1_tableAt wsX1_tableAt) := goodIn_app (goodIn_of _ (by decide +kernel)) ggX1_sight_X1_tableAt
set_option maxRecDepth 20000 in
theorem ggX1_sight_X1_isSpan : GoodIn wsX1_sight wsX1_isSpan := goodIn_r _ [11] (by decide +kernel) (by decide +kernel)
set_option maxRecDepth 20000 in
theorem gX1_sight_X1_isSpan : GoodIn wsX1_sight (va_wsS RX1 35 yX1_isSpan wsX1_isSpan) := goodIn_app (goodIn_of _ (by decide +kernel)) ggX1_sight_X1_isSpan
set_option maxRecDepth 20000 in
theorem ggX1_sight_X0_addSight : GoodIn wsX1_sight wsX0_addSight := goodIn_r _ [16, 17, 18, 19, 20, 21, 22, 23, 24, 15, 25, 26, 27, 28, 29, 30, 31, 32, 33, 34, 35, 36, 37, 38, 39, 40, 41] (by decide +kernel) (by decide +kernel)
set_option maxRecDepth 20000 in
theorem gX1_sight_X0_addSight : GoodIn wsX1_sight (wsV RX1 40 RX0 yX0_addSight wsX0_addSight) := goodIn_app (goodIn_of _ (by decide +kernel)) ggX1_sight_X0_addSight
theorem dX1_sight_0 : decode cX1_sight 0 = .ok (.aload_n 0, 1) := by decide +kernel
theorem dX1_sight_1 : decode cX1_sight 1 = .ok (.iload_n 1, 1) := by decide +kernel
theorem dX1_sight_2 : decode cX1_sight 2 = .ok (.invokevirtual 16, 3) := by decide +kernel
theorem dX1_sight_5 : decode cX1_sight 5 = .ok (.astore 6, 2) := by decide +kernel
theorem dX1_sight_7 : decode cX1_sight 7 = .ok (.aload 6, 2) := by decide +kernel
theorem dX1_sight_9 : decode cX1_sight 9 = .ok (.ifnull 26, 3) := by decide +kernel
theorem dX1_sight_12 : decode cX1_sight 12 = .ok (.iload_n 2, 1) := by decide +kernel
theorem dX1_sight_13 : decode cX1_sight 13 = .ok (.iload_n 3, 1) := by decide +kernel
theorem dX1_sight_14 : decode cX1_sight 14 = .ok (.invokestatic 35, 3) := by decide +kernel
theorem dX1_sight_17 : decode cX1_sight 17 = .ok (.ifCond .eq 18, 3) := by decide +kernel
theorem dX1_sight_20 : decode cX1_sight 20 = .ok (.iload 4, 2) := by decide +kernel
theorem dX1_sight_22 : decode cX1_sight 22 = .ok (.ifCond .lt 13, 3) := by decide +kernel
theorem dX1_sight_25 : decode cX1_sight 25 = .ok (.iload 4, 2) := by decide +kernel
theorem dX1_sight_27 : decode cX1_sight 27 = .ok (.aload 6, 2) := by decide +kernel
theorem dX1_sight_29 : decode cX1_sight 29 = .ok (.getfield 25, 3) := by decide +kernel
theorem dX1_sight_32 : decode cX1_sight 32 = .ok (.if_icmp .le 5, 3) := by decide +kernel
theorem dX1_sight_35 : decode cX1_sight 35 = .ok (.iconst (-1), 1) := by decide +kernel
theorem dX1_sight_36 : decode cX1_sight 36 = .ok (.ireturn, 1) := by decide +kernel
theorem dX1_sight_37 : decode cX1_sight 37 = .ok (.aload 6, 2) := by decide +kernel
theorem dX1_sight_39 : decode cX1_sight 39 = .ok (.iload_n 2, 1) := by decide +kernel
theorem dX1_sight_40 : decode cX1_sight 40 = .ok (.iload_n 3, 1) := by decide +kernel
theorem dX1_sight_41 : decode cX1_sight 41 = .ok (.iload 4, 2) := by decide +kernel
theorem dX1_sight_43 : decode cX1_sight 43 = .ok (.iload 5, 2) := by decide +kernel
theorem dX1_sight_45 : decode cX1_sight 45 = .ok (.ifCond .eq 8, 3) := by decide +kernel
theorem dX1_sight_48 : decode cX1_sight 48 = .ok (.ldc 39, 2) := by decide +kernel
theorem dX1_sight_50 : decode cX1_sight 50 = .ok (.goto 5, 3) := by decide +kernel
theorem dX1_sight_53 : decode cX1_sight 53 = .ok (.iload 4, 2) := by decide +kernel
theorem dX1_sight_55 : decode cX1_sight 55 = .ok (.invokevirtual 40, 3) := by decide +kernel
theorem dX1_sight_58 : decode cX1_sight 58 = .ok (.ireturn, 1) := by decide +kernel
set_option maxRecDepth 20000 in
theorem ggX1_begins_X1_textsOf : GoodIn wsX1_begins wsX1_textsOf := goodIn_r _ [4] (by decide +kernel) (by decide +kernel)
set_option maxRecDepth 20000 in
theorem gX1_begins_X1_textsOf : GoodIn wsX1_begins (va_wsS RX1 44 yX1_textsOf wsX1_textsOf) := goodIn_app (goodIn_of _ (by decide +kernel)) ggX1_begins_X1_textsOf
set_option maxRecDepth 20000 in
theorem ggX1_begins_X1_sight : GoodIn wsX1_begins wsX1_sight := goodIn_r _ [8, 9, 10, 11, 12, 13, 3, 14, 15, 16, 17, 18, 19, 20, 21, 22, 23, 24, 25, 26, 27, 28, 29, 30, 31, 32, 33, 34, 35, 36, 37, 38, 39, 40, 41, 42, 43, 44, 45, 46, 47, 48, 49] (by decide +kernel) (by decide +kernel)
set_option maxRecDepth 20000 in
theorem gX1_begins_X1_sight : GoodIn wsX1_begins (wsV RX1 48 RX1 yX1_sight wsX1_sight) := goodIn_app (goodIn_of _ (by decide +kernel)) ggX1_begins_X1_sight
theorem dX1_begins_0 : decode cX1_begins 0 = .ok (.iload_n 2, 1) := by decide +kernel
theorem dX1_begins_1 : decode cX1_begins 1 = .ok (.ifCond .lt 20, 3) := by decide +kernel
theorem dX1_begins_4 : decode cX1_begins 4 = .ok (.iload_n 2, 1) := by decide +kernel
theorem dX1_begins_5 : decode cX1_begins 5 = .ok (.iconst 3, 1) := by decide +kernel
theorem dX1_begins_6 : decode cX1_begins 6 = .ok (.if_icmp .gt 15, 3) := by decide +kernel
theorem dX1_begins_9 : decode cX1_begins 9 = .ok (.iload_n 3, 1) := by decide +kernel
theorem dX1_begins_10 : decode cX1_begins 10 = .ok (.ifCond .lt 11, 3) := by decide +kernel
theorem dX1_begins_13 : decode cX1_begins 13 = .ok (.iload_n 3, 1) := by decide +kernel
theorem dX1_begins_14 : decode cX1_begins 14 = .ok (.iload_n 2, 1) := by decide +kernel
theorem dX1_begins_15 : decode cX1_begins 15 = .ok (.invokestatic 44, 3) := by decide +kernel
theorem dX1_begins_18 : decode cX1_begins 18 = .ok (.if_icmp .lt 5, 3) := by decide +kernel
theorem dX1_begins_21 : decode cX1_begins 21 = .ok (.iconst (-1), 1) := by decide +kernel
theorem dX1_begins_22 : decode cX1_begins 22 = .ok (.ireturn, 1) := by decide +kernel
theorem dX1_begins_23 : decode cX1_begins 23 = .ok (.iconst 3, 1) := by decide +kernel
theorem dX1_begins_24 : decode cX1_begins 24 = .ok (.iload_n 2, 1) := by decide +kernel
theorem dX1_begins_25 : decode cX1_begins 25 = .ok (.isub, 1) := by decide +kernel
theorem dX1_begins_26 : decode cX1_begins 26 = .ok (.invokestatic 44, 3) := by decide +kernel
theorem dX1_begins_29 : decode cX1_begins 29 = .ok (.istore 5, 2) := by decide +kernel
theorem dX1_begins_31 : decode cX1_begins 31 = .ok (.iload_n 3, 1) := by decide +kernel
theorem dX1_begins_32 : decode cX1_begins 32 = .ok (.iload 5, 2) := by decide +kernel
theorem dX1_begins_34 : decode cX1_begins 34 = .ok (.imul, 1) := by decide +kernel
theorem dX1_begins_35 : decode cX1_begins 35 = .ok (.istore 6, 2) := by decide +kernel
theorem dX1_begins_37 : decode cX1_begins 37 = .ok (.aload_n 0, 1) := by decide +kernel
theorem dX1_begins_38 : decode cX1_begins 38 = .ok (.iload_n 1, 1) := by decide +kernel
theorem dX1_begins_39 : decode cX1_begins 39 = .ok (.iload 6, 2) := by decide +kernel
theorem dX1_begins_41 : decode cX1_begins 41 = .ok (.iload 6, 2) := by decide +kernel
theorem dX1_begins_43 : decode cX1_begins 43 = .ok (.iload 5, 2) := by decide +kernel
theorem dX1_begins_45 : decode cX1_begins 45 = .ok (.iadd, 1) := by decide +kernel
