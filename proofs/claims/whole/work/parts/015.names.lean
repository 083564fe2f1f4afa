theorem dX2_closes_108 : decode cX2_closes 108 = .ok (.iaload, 1) := by decide +kernel
theorem dX2_closes_109 : decode cX2_closes 109 = .ok (.iload_n 2, 1) := by decide +kernel
theorem dX2_closes_110 : decode cX2_closes 110 = .ok (.isub, 1) := by decide +kernel
theorem dX2_closes_111 : decode cX2_closes 111 = .ok (.aload_n 0, 1) := by decide +kernel
theorem dX2_closes_112 : decode cX2_closes 112 = .ok (.getfield 16, 3) := by decide +kernel
theorem dX2_closes_115 : decode cX2_closes 115 = .ok (.iload_n 1, 1) := by decide +kernel
theorem dX2_closes_116 : decode cX2_closes 116 = .ok (.iaload, 1) := by decide +kernel
theorem dX2_closes_117 : decode cX2_closes 117 = .ok (.if_icmp .le 13, 3) := by decide +kernel
theorem dX2_closes_120 : decode cX2_closes 120 = .ok (.aload_n 0, 1) := by decide +kernel
theorem dX2_closes_121 : decode cX2_closes 121 = .ok (.getfield 31, 3) := by decide +kernel
theorem dX2_closes_124 : decode cX2_closes 124 = .ok (.iload_n 3, 1) := by decide +kernel
theorem dX2_closes_125 : decode cX2_closes 125 = .ok (.iconst 2, 1) := by decide +kernel
theorem dX2_closes_126 : decode cX2_closes 126 = .ok (.iastore, 1) := by decide +kernel
theorem dX2_closes_127 : decode cX2_closes 127 = .ok (.goto 123, 3) := by decide +kernel
theorem dX2_closes_130 : decode cX2_closes 130 = .ok (.aload_n 0, 1) := by decide +kernel
theorem dX2_closes_131 : decode cX2_closes 131 = .ok (.getfield 25, 3) := by decide +kernel
theorem dX2_closes_134 : decode cX2_closes 134 = .ok (.iload_n 3, 1) := by decide +kernel
theorem dX2_closes_135 : decode cX2_closes 135 = .ok (.iaload, 1) := by decide +kernel
theorem dX2_closes_136 : decode cX2_closes 136 = .ok (.aload_n 0, 1) := by decide +kernel
theorem dX2_closes_137 : decode cX2_closes 137 = .ok (.aload_n 0, 1) := by decide +kernel
theorem dX2_closes_138 : decode cX2_closes 138 = .ok (.getfield 22, 3) := by decide +kernel
theorem dX2_closes_141 : decode cX2_closes 141 = .ok (.iload_n 3, 1) := by decide +kernel
theorem dX2_closes_142 : decode cX2_closes 142 = .ok (.iaload, 1) := by decide +kernel
theorem dX2_closes_143 : decode cX2_closes 143 = .ok (.aload_n 0, 1) := by decide +kernel
theorem dX2_closes_144 : decode cX2_closes 144 = .ok (.getfield 19, 3) := by decide +kernel
theorem dX2_closes_147 : decode cX2_closes 147 = .ok (.iload_n 3, 1) := by decide +kernel
theorem dX2_closes_148 : decode cX2_closes 148 = .ok (.iaload, 1) := by decide +kernel
theorem dX2_closes_149 : decode cX2_closes 149 = .ok (.invokevirtual 74, 3) := by decide +kernel
theorem dX2_closes_152 : decode cX2_closes 152 = .ok (.ineg, 1) := by decide +kernel
theorem dX2_closes_153 : decode cX2_closes 153 = .ok (.invokestatic 63, 3) := by decide +kernel
theorem dX2_closes_156 : decode cX2_closes 156 = .ok (.istore 4, 2) := by decide +kernel
theorem dX2_closes_158 : decode cX2_closes 158 = .ok (.aload_n 0, 1) := by decide +kernel
theorem dX2_closes_159 : decode cX2_closes 159 = .ok (.getfield 28, 3) := by decide +kernel
theorem dX2_closes_162 : decode cX2_closes 162 = .ok (.iload_n 3, 1) := by decide +kernel
theorem dX2_closes_163 : decode cX2_closes 163 = .ok (.iaload, 1) := by decide +kernel
theorem dX2_closes_164 : decode cX2_closes 164 = .ok (.aload_n 0, 1) := by decide +kernel
theorem dX2_closes_165 : decode cX2_closes 165 = .ok (.aload_n 0, 1) := by decide +kernel
theorem dX2_closes_166 : decode cX2_closes 166 = .ok (.getfield 19, 3) := by decide +kernel
theorem dX2_closes_169 : decode cX2_closes 169 = .ok (.iload_n 3, 1) := by decide +kernel
theorem dX2_closes_170 : decode cX2_closes 170 = .ok (.iaload, 1) := by decide +kernel
theorem dX2_closes_171 : decode cX2_closes 171 = .ok (.aload_n 0, 1) := by decide +kernel
theorem dX2_closes_172 : decode cX2_closes 172 = .ok (.getfield 22, 3) := by decide +kernel
theorem dX2_closes_175 : decode cX2_closes 175 = .ok (.iload_n 3, 1) := by decide +kernel
theorem dX2_closes_176 : decode cX2_closes 176 = .ok (.iaload, 1) := by decide +kernel
theorem dX2_closes_177 : decode cX2_closes 177 = .ok (.invokevirtual 74, 3) := by decide +kernel
theorem dX2_closes_180 : decode cX2_closes 180 = .ok (.invokestatic 57, 3) := by decide +kernel
theorem dX2_closes_183 : decode cX2_closes 183 = .ok (.istore 5, 2) := by decide +kernel
theorem dX2_closes_185 : decode cX2_closes 185 = .ok (.aload_n 0, 1) := by decide +kernel
theorem dX2_closes_186 : decode cX2_closes 186 = .ok (.getfield 31, 3) := by decide +kernel
theorem dX2_closes_189 : decode cX2_closes 189 = .ok (.iload_n 3, 1) := by decide +kernel
theorem dX2_closes_190 : decode cX2_closes 190 = .ok (.iload 4, 2) := by decide +kernel
theorem dX2_closes_192 : decode cX2_closes 192 = .ok (.iload 5, 2) := by decide +kernel
theorem dX2_closes_194 : decode cX2_closes 194 = .ok (.if_icmp .gt 7, 3) := by decide +kernel
theorem dX2_closes_197 : decode cX2_closes 197 = .ok (.iconst 0, 1) := by decide +kernel
theorem dX2_closes_198 : decode cX2_closes 198 = .ok (.goto 4, 3) := by decide +kernel
theorem dX2_closes_201 : decode cX2_closes 201 = .ok (.iconst 1, 1) := by decide +kernel
theorem dX2_closes_202 : decode cX2_closes 202 = .ok (.iastore, 1) := by decide +kernel
theorem dX2_closes_203 : decode cX2_closes 203 = .ok (.iload 4, 2) := by decide +kernel
theorem dX2_closes_205 : decode cX2_closes 205 = .ok (.iload 5, 2) := by decide +kernel
theorem dX2_closes_207 : decode cX2_closes 207 = .ok (.if_icmp .le 6, 3) := by decide +kernel
theorem dX2_closes_210 : decode cX2_closes 210 = .ok (.goto 40, 3) := by decide +kernel
theorem dX2_closes_213 : decode cX2_closes 213 = .ok (.aload_n 0, 1) := by decide +kernel
theorem dX2_closes_214 : decode cX2_closes 214 = .ok (.aload_n 0, 1) := by decide +kernel
theorem dX2_closes_215 : decode cX2_closes 215 = .ok (.getfield 19, 3) := by decide +kernel
theorem dX2_closes_218 : decode cX2_closes 218 = .ok (.iload_n 3, 1) := by decide +kernel
theorem dX2_closes_219 : decode cX2_closes 219 = .ok (.iaload, 1) := by decide +kernel
theorem dX2_closes_220 : decode cX2_closes 220 = .ok (.aload_n 0, 1) := by decide +kernel
theorem dX2_closes_221 : decode cX2_closes 221 = .ok (.getfield 22, 3) := by decide +kernel
theorem dX2_closes_224 : decode cX2_closes 224 = .ok (.iload_n 3, 1) := by decide +kernel
theorem dX2_closes_225 : decode cX2_closes 225 = .ok (.iaload, 1) := by decide +kernel
theorem dX2_closes_226 : decode cX2_closes 226 = .ok (.iload 5, 2) := by decide +kernel
theorem dX2_closes_228 : decode cX2_closes 228 = .ok (.invokevirtual 77, 3) := by decide +kernel
theorem dX2_closes_231 : decode cX2_closes 231 = .ok (.aload_n 0, 1) := by decide +kernel
theorem dX2_closes_232 : decode cX2_closes 232 = .ok (.aload_n 0, 1) := by decide +kernel
theorem dX2_closes_233 : decode cX2_closes 233 = .ok (.getfield 22, 3) := by decide +kernel
theorem dX2_closes_236 : decode cX2_closes 236 = .ok (.iload_n 3, 1) := by decide +kernel
theorem dX2_closes_237 : decode cX2_closes 237 = .ok (.iaload, 1) := by decide +kernel
theorem dX2_closes_238 : decode cX2_closes 238 = .ok (.aload_n 0, 1) := by decide +kernel
theorem dX2_closes_239 : decode cX2_closes 239 = .ok (.getfield 19, 3) := by decide +kernel
theorem dX2_closes_242 : decode cX2_closes 242 = .ok (.iload_n 3, 1) := by decide +kernel
theorem dX2_closes_243 : decode cX2_closes 243 = .ok (.iaload, 1) := by decide +kernel
theorem dX2_closes_244 : decode cX2_closes 244 = .ok (.iload 4, 2) := by decide +kernel
theorem dX2_closes_246 : decode cX2_closes 246 = .ok (.ineg, 1) := by decide +kernel
theorem dX2_closes_247 : decode cX2_closes 247 = .ok (.invokevirtual 77, 3) := by decide +kernel
theorem dX2_closes_250 : decode cX2_closes 250 = .ok (.iinc 2 (-1), 3) := by decide +kernel
theorem dX2_closes_253 : decode cX2_closes 253 = .ok (.goto (-161), 3) := by decide +kernel
theorem dX2_closes_256 : decode cX2_closes 256 = .ok (.return_, 1) := by decide +kernel
set_option maxRecDepth 20000 in
theorem ggX2_sightOf_X2_isTable : GoodIn wsX2_sightOf wsX2_isTable := goodIn_r _ [10, 11, 12, 9, 13] (by decide +kernel) (by decide +kernel)
set_option maxRecDepth 20000 in
theorem gX2_sightOf_X2_isTable : GoodIn wsX2_sightOf (va_wsS RX2 51 yX2_isTable wsX2_isTable) := goodIn_app (goodIn_of _ (by decide +kernel)) ggX2_sightOf_X2_isTable
set_option maxRecDepth 20000 in
theorem ggX2_sightOf_X2_isIn : GoodIn wsX2_sightOf wsX2_isIn := goodIn_r _ [13] (by decide +kernel) (by decide +kernel)
set_option maxRecDepth 20000 in
theorem gX2_sightOf_X2_isIn : GoodIn wsX2_sightOf (va_wsS RX2 47 yX2_isIn wsX2_isIn) := goodIn_app (goodIn_of _ (by decide +kernel)) ggX2_sightOf_X2_isIn
set_option maxRecDepth 20000 in
theorem ggX2_sightOf_X2_closes : GoodIn wsX2_sightOf wsX2_closes := goodIn_r _ [17, 18, 19, 20, 1, 21, 6, 4, 3, 2, 22, 23, 24, 25, 5, 26, 27, 28, 29, 30, 31, 9, 32, 33, 34, 35, 36, 37, 38, 39, 40, 41, 42, 43, 44, 45, 46, 47, 48] (by decide +kernel) (by decide +kernel)
set_option maxRecDepth 20000 in
theorem gX2_sightOf_X2_closes : GoodIn wsX2_sightOf (wsV RX2 81 RX2 yX2_closes wsX2_closes) := goodIn_app (goodIn_of _ (by decide +kernel)) ggX2_sightOf_X2_closes
theorem dX2_sightOf_0 : decode cX2_sightOf 0 = .ok (.iload_n 1, 1) := by decide +kernel
theorem dX2_sightOf_1 : decode cX2_sightOf 1 = .ok (.invokestatic 51, 3) := by decide +kernel
theorem dX2_sightOf_4 : decode cX2_sightOf 4 = .ok (.ifCond .eq 19, 3) := by decide +kernel
theorem dX2_sightOf_7 : decode cX2_sightOf 7 = .ok (.iload_n 2, 1) := by decide +kernel
theorem dX2_sightOf_8 : decode cX2_sightOf 8 = .ok (.iconst 0, 1) := by decide +kernel
theorem dX2_sightOf_9 : decode cX2_sightOf 9 = .ok (.aload_n 0, 1) := by decide +kernel
theorem dX2_sightOf_10 : decode cX2_sightOf 10 = .ok (.getfield 13, 3) := by decide +kernel
theorem dX2_sightOf_13 : decode cX2_sightOf 13 = .ok (.iload_n 1, 1) := by decide +kernel
theorem dX2_sightOf_14 : decode cX2_sightOf 14 = .ok (.iaload, 1) := by decide +kernel
theorem dX2_sightOf_15 : decode cX2_sightOf 15 = .ok (.iconst 1, 1) := by decide +kernel
theorem dX2_sightOf_16 : decode cX2_sightOf 16 = .ok (.isub, 1) := by decide +kernel
theorem dX2_sightOf_17 : decode cX2_sightOf 17 = .ok (.invokestatic 47, 3) := by decide +kernel
theorem dX2_sightOf_20 : decode cX2_sightOf 20 = .ok (.ifCond .ne 5, 3) := by decide +kernel
theorem dX2_sightOf_23 : decode cX2_sightOf 23 = .ok (.iconst (-1), 1) := by decide +kernel
theorem dX2_sightOf_24 : decode cX2_sightOf 24 = .ok (.ireturn, 1) := by decide +kernel
theorem dX2_sightOf_25 : decode cX2_sightOf 25 = .ok (.aload_n 0, 1) := by decide +kernel
theorem dX2_sightOf_26 : decode cX2_sightOf 26 = .ok (.iload_n 1, 1) := by decide +kernel
theorem dX2_sightOf_27 : decode cX2_sightOf 27 = .ok (.invokevirtual 81, 3) := by decide +kernel
theorem dX2_sightOf_30 : decode cX2_sightOf 30 = .ok (.bipush 40, 2) := by decide +kernel
theorem dX2_sightOf_32 : decode cX2_sightOf 32 = .ok (.iload_n 1, 1) := by decide +kernel
theorem dX2_sightOf_33 : decode cX2_sightOf 33 = .ok (.imul, 1) := by decide +kernel
theorem dX2_sightOf_34 : decode cX2_sightOf 34 = .ok (.iload_n 2, 1) := by decide +kernel
theorem dX2_sightOf_35 : decode cX2_sightOf 35 = .ok (.iadd, 1) := by decide +kernel
theorem dX2_sightOf_36 : decode cX2_sightOf 36 = .ok (.istore 4, 2) := by decide +kernel
theorem dX2_sightOf_38 : decode cX2_sightOf 38 = .ok (.iload_n 3, 1) := by decide +kernel
theorem dX2_sightOf_39 : decode cX2_sightOf 39 = .ok (.ifCond .ne 13, 3) := by decide +kernel
theorem dX2_sightOf_42 : decode cX2_sightOf 42 = .ok (.aload_n 0, 1) := by decide +kernel
theorem dX2_sightOf_43 : decode cX2_sightOf 43 = .ok (.getfield 19, 3) := by decide +kernel
theorem dX2_sightOf_46 : decode cX2_sightOf 46 = .ok (.iload 4, 2) := by decide +kernel
theorem dX2_sightOf_48 : decode cX2_sightOf 48 = .ok (.iaload, 1) := by decide +kernel
theorem dX2_sightOf_49 : decode cX2_sightOf 49 = .ok (.goto 64, 3) := by decide +kernel
theorem dX2_sightOf_52 : decode cX2_sightOf 52 = .ok (.iload_n 3, 1) := by decide +kernel
theorem dX2_sightOf_53 : decode cX2_sightOf 53 = .ok (.iconst 1, 1) := by decide +kernel
theorem dX2_sightOf_54 : decode cX2_sightOf 54 = .ok (.if_icmp .ne 13, 3) := by decide +kernel
theorem dX2_sightOf_57 : decode cX2_sightOf 57 = .ok (.aload_n 0, 1) := by decide +kernel
theorem dX2_sightOf_58 : decode cX2_sightOf 58 = .ok (.getfield 22, 3) := by decide +kernel
theorem dX2_sightOf_61 : decode cX2_sightOf 61 = .ok (.iload 4, 2) := by decide +kernel
theorem dX2_sightOf_63 : decode cX2_sightOf 63 = .ok (.iaload, 1) := by decide +kernel
theorem dX2_sightOf_64 : decode cX2_sightOf 64 = .ok (.goto 49, 3) := by decide +kernel
theorem dX2_sightOf_67 : decode cX2_sightOf 67 = .ok (.iload_n 3, 1) := by decide +kernel
theorem dX2_sightOf_68 : decode cX2_sightOf 68 = .ok (.iconst 2, 1) := by decide +kernel
theorem dX2_sightOf_69 : decode cX2_sightOf 69 = .ok (.if_icmp .ne 13, 3) := by decide +kernel
theorem dX2_sightOf_72 : decode cX2_sightOf 72 = .ok (.aload_n 0, 1) := by decide +kernel
theorem dX2_sightOf_73 : decode cX2_sightOf 73 = .ok (.getfield 25, 3) := by decide +kernel
theorem dX2_sightOf_76 : decode cX2_sightOf 76 = .ok (.iload 4, 2) := by decide +kernel
theorem dX2_sightOf_78 : decode cX2_sightOf 78 = .ok (.iaload, 1) := by decide +kernel
theorem dX2_sightOf_79 : decode cX2_sightOf 79 = .ok (.goto 34, 3) := by decide +kernel
theorem dX2_sightOf_82 : decode cX2_sightOf 82 = .ok (.iload_n 3, 1) := by decide +kernel
theorem dX2_sightOf_83 : decode cX2_sightOf 83 = .ok (.iconst 3, 1) := by decide +kernel
theorem dX2_sightOf_84 : decode cX2_sightOf 84 = .ok (.if_icmp .ne 13, 3) := by decide +kernel
theorem dX2_sightOf_87 : decode cX2_sightOf 87 = .ok (.aload_n 0, 1) := by decide +kernel
theorem dX2_sightOf_88 : decode cX2_sightOf 88 = .ok (.getfield 28, 3) := by decide +kernel
theorem dX2_sightOf_91 : decode cX2_sightOf 91 = .ok (.iload 4, 2) := by decide +kernel
theorem dX2_sightOf_93 : decode cX2_sightOf 93 = .ok (.iaload, 1) := by decide +kernel
theorem dX2_sightOf_94 : decode cX2_sightOf 94 = .ok (.goto 19, 3) := by decide +kernel
theorem dX2_sightOf_97 : decode cX2_sightOf 97 = .ok (.iload_n 3, 1) := by decide +kernel
theorem dX2_sightOf_98 : decode cX2_sightOf 98 = .ok (.iconst 4, 1) := by decide +kernel
theorem dX2_sightOf_99 : decode cX2_sightOf 99 = .ok (.if_icmp .ne 13, 3) := by decide +kernel
theorem dX2_sightOf_102 : decode cX2_sightOf 102 = .ok (.aload_n 0, 1) := by decide +kernel
theorem dX2_sightOf_103 : decode cX2_sightOf 103 = .ok (.getfield 31, 3) := by decide +kernel
theorem dX2_sightOf_106 : decode cX2_sightOf 106 = .ok (.iload 4, 2) := by decide +kernel
theorem dX2_sightOf_108 : decode cX2_sightOf 108 = .ok (.iaload, 1) := by decide +kernel
theorem dX2_sightOf_109 : decode cX2_sightOf 109 = .ok (.goto 4, 3) := by decide +kernel
theorem dX2_sightOf_112 : decode cX2_sightOf 112 = .ok (.iconst (-1), 1) := by decide +kernel
theorem dX2_sightOf_113 : decode cX2_sightOf 113 = .ok (.ireturn, 1) := by decide +kernel
set_option maxRecDepth 20000 in
theorem ggX2_least_X2_isTable : GoodIn wsX2_least wsX2_isTable := goodIn_r _ [4, 5, 6, 3, 7] (by decide +kernel) (by decide +kernel)
set_option maxRecDepth 20000 in
theorem gX2_least_X2_isTable : GoodIn wsX2_least (va_wsS RX2 51 yX2_isTable wsX2_isTable) := goodIn_app (goodIn_of _ (by decide +kernel)) ggX2_least_X2_isTable
set_option maxRecDepth 20000 in
theorem ggX2_least_X2_isSpan : GoodIn wsX2_least wsX2_isSpan := goodIn_r _ [10] (by decide +kernel) (by decide +kernel)
set_option maxRecDepth 20000 in
theorem gX2_least_X2_isSpan : GoodIn wsX2_least (va_wsS RX2 66 yX2_isSpan wsX2_isSpan) := goodIn_app (goodIn_of _ (by decide +kernel)) ggX2_least_X2_isSpan
set_option maxRecDepth 20000 in
theorem ggX2_least_X2_closes : GoodIn wsX2_least wsX2_closes := goodIn_r _ [14, 15, 16, 17, 18, 19, 20, 21, 22, 23, 24, 25, 26, 27, 28, 29, 30, 31, 32, 33, 34, 3, 35, 36, 37, 38, 39, 40, 41, 42, 43, 44, 45, 46, 47, 48, 49, 50, 51] (by decide +kernel) (by decide +kernel)
set_option maxRecDepth 20000 in
theorem gX2_least_X2_closes : GoodIn wsX2_least (wsV RX2 81 RX2 yX2_closes wsX2_closes) := goodIn_app (goodIn_of _ (by decide +kernel)) ggX2_least_X2_closes
set_option maxRecDepth 20000 in
theorem ggX2_least_X2_most : GoodIn wsX2_least wsX2_most := goodIn_r _ [35, 16, 40, 41, 42, 43, 44, 45, 46, 47, 48, 49, 50, 51] (by decide +kernel) (by decide +kernel)
set_option maxRecDepth 20000 in
theorem gX2_least_X2_most : GoodIn wsX2_least (wsV RX2 74 RX2 yX2_most wsX2_most) := goodIn_app (goodIn_of _ (by decide +kernel)) ggX2_least_X2_most
theorem dX2_least_0 : decode cX2_least 0 = .ok (.iload_n 1, 1) := by decide +kernel
theorem dX2_least_1 : decode cX2_least 1 = .ok (.invokestatic 51, 3) := by decide +kernel
theorem dX2_least_4 : decode cX2_least 4 = .ok (.ifCond .eq 11, 3) := by decide +kernel
theorem dX2_least_7 : decode cX2_least 7 = .ok (.iload_n 2, 1) := by decide +kernel
theorem dX2_least_8 : decode cX2_least 8 = .ok (.iload_n 3, 1) := by decide +kernel
theorem dX2_least_9 : decode cX2_least 9 = .ok (.invokestatic 66, 3) := by decide +kernel
theorem dX2_least_12 : decode cX2_least 12 = .ok (.ifCond .ne 5, 3) := by decide +kernel
theorem dX2_least_15 : decode cX2_least 15 = .ok (.iconst (-1), 1) := by decide +kernel
theorem dX2_least_16 : decode cX2_least 16 = .ok (.ireturn, 1) := by decide +kernel
theorem dX2_least_17 : decode cX2_least 17 = .ok (.aload_n 0, 1) := by decide +kernel
theorem dX2_least_18 : decode cX2_least 18 = .ok (.iload_n 1, 1) := by decide +kernel
theorem dX2_least_19 : decode cX2_least 19 = .ok (.invokevirtual 81, 3) := by decide +kernel
theorem dX2_least_22 : decode cX2_least 22 = .ok (.aload_n 0, 1) := by decide +kernel
theorem dX2_least_23 : decode cX2_least 23 = .ok (.iload_n 3, 1) := by decide +kernel
theorem dX2_least_24 : decode cX2_least 24 = .ok (.iload_n 2, 1) := by decide +kernel
theorem dX2_least_25 : decode cX2_least 25 = .ok (.invokevirtual 74, 3) := by decide +kernel
theorem dX2_least_28 : decode cX2_least 28 = .ok (.ineg, 1) := by decide +kernel
theorem dX2_least_29 : decode cX2_least 29 = .ok (.ireturn, 1) := by decide +kernel
set_option maxRecDepth 20000 in
theorem ggX2_greatest_X2_isTable : GoodIn wsX2_greatest wsX2_isTable := goodIn_r _ [4, 5, 6, 3, 7] (by decide +kernel) (by decide +kernel)
set_option maxRecDepth 20000 in
theorem gX2_greatest_X2_isTable : GoodIn wsX2_greatest (va_wsS RX2 51 yX2_isTable wsX2_isTable) := goodIn_app (goodIn_of _ (by decide +kernel)) ggX2_greatest_X2_isTable
set_option maxRecDepth 20000 in
theorem ggX2_greatest_X2_isSpan : GoodIn wsX2_greatest wsX2_isSpan := goodIn_r _ [10] (by decide +kernel) (by decide +kernel)
set_option maxRecDepth 20000 in
theorem gX2_greatest_X2_isSpan : GoodIn wsX2_greatest (va_wsS RX2 66 yX2_isSpan wsX2_isSpan) := goodIn_app (goodIn_of _ (by decide +kernel)) ggX2_greatest_X2_isSpan
set_option maxRecDepth 20000 in
theorem ggX2_greatest_X2_closes : GoodIn wsX2_greatest wsX2_closes := goodIn_r _ [14, 15, 16, 17, 18, 19, 20, 21, 22, 23, 24, 25, 26, 27, 28, 29, 30, 31, 32, 33, 34, 3, 35, 36, 37, 38, 39, 40, 41, 42, 43, 44, 45, 46, 47, 48, 49, 50, 51] (by decide +kernel) (by decide +kernel)
set_option maxRecDepth 20000 in
theorem gX2_greatest_X2_closes : GoodIn wsX2_greatest (wsV RX2 81 RX2 yX2_closes wsX2_closes) := goodIn_app (goodIn_of _ (by decide +kernel)) ggX2_greatest_X2_closes
set_option maxRecDepth 20000 in
theorem ggX2_greatest_X2_most : GoodIn wsX2_greatest wsX2_most := goodIn_r _ [35, 16, 40, 41, 42, 43, 44, 45, 46, 47, 48, 49, 50, 51] (by decide +kernel) (by decide +kernel)
set_option maxRecDepth 20000 in
theorem gX2_greatest_X2_most : GoodIn wsX2_greatest (wsV RX2 74 RX2 yX2_most wsX2_most) := goodIn_app (goodIn_of _ (by decide +kernel)) ggX2_greatest_X2_most
theorem dX2_greatest_0 : decode cX2_greatest 0 = .ok (.iload_n 1, 1) := by decide +kernel
theorem dX2_greatest_1 : decode cX2_greatest 1 = .ok (.invokestatic 51, 3) := by decide +kernel
theorem dX2_greatest_4 : decode cX2_greatest 4 = .ok (.ifCond .eq 11, 3) := by decide +kernel
theorem dX2_greatest_7 : decode cX2_greatest 7 = .ok (.iload_n 2, 1) := by decide +kernel
theorem dX2_greatest_8 : decode cX2_greatest 8 = .ok (.iload_n 3, 1) := by decide +kernel
theorem dX2_greatest_9 : decode cX2_greatest 9 = .ok (.invokestatic 66, 3) := by decide +kernel
theorem dX2_greatest_12 : decode cX2_greatest 12 = .ok (.ifCond .ne 5, 3) := by decide +kernel
theorem dX2_greatest_15 : decode cX2_greatest 15 = .ok (.iconst (-1), 1) := by decide +kernel
theorem dX2_greatest_16 : decode cX2_greatest 16 = .ok (.ireturn, 1) := by decide +kernel
theorem dX2_greatest_17 : decode cX2_greatest 17 = .ok (.aload_n 0, 1) := by decide +kernel
theorem dX2_greatest_18 : decode cX2_greatest 18 = .ok (.iload_n 1, 1) := by decide +kernel
theorem dX2_greatest_19 : decode cX2_greatest 19 = .ok (.invokevirtual 81, 3) := by decide +kernel
theorem dX2_greatest_22 : decode cX2_greatest 22 = .ok (.aload_n 0, 1) := by decide +kernel
theorem dX2_greatest_23 : decode cX2_greatest 23 = .ok (.iload_n 2, 1) := by decide +kernel
theorem dX2_greatest_24 : decode cX2_greatest 24 = .ok (.iload_n 3, 1) := by decide +kernel
theorem dX2_greatest_25 : decode cX2_greatest 25 = .ok (.invokevirtual 74, 3) := by decide +kernel
theorem dX2_greatest_28 : decode cX2_greatest 28 = .ok (.ireturn, 1) := by decide +kernel
set_option maxRecDepth 20000 in
theorem ggX2_guesses_X2_closes : GoodIn wsX2_guesses wsX2_closes := goodIn_r _ [14, 15, 16, 2, 17, 18, 19, 20, 21, 22, 3, 4, 5, 6, 23, 7, 8, 9, 24, 25, 26, 13, 27, 28, 29, 30, 31, 32, 33, 34, 35, 36, 37, 38, 39, 40, 41, 42, 43] (by decide +kernel) (by decide +kernel)
set_option maxRecDepth 20000 in
theorem gX2_guesses_X2_closes : GoodIn wsX2_guesses (wsV RX2 81 RX2 yX2_closes wsX2_closes) := goodIn_app (goodIn_of _ (by decide +kernel)) ggX2_guesses_X2_closes
set_option maxRecDepth 20000 in
theorem ggX2_guesses_X2_most : GoodIn wsX2_guesses wsX2_most := goodIn_r _ [27, 16, 32, 33, 34, 35, 36, 37, 38, 39, 40, 41, 42, 43] (by decide +kernel) (by decide +kernel)
set_option maxRecDepth 20000 in
theorem gX2_guesses_X2_most : GoodIn wsX2_guesses (wsV RX2 74 RX2 yX2_most wsX2_most) := goodIn_app (goodIn_of _ (by decide +kernel)) ggX2_guesses_X2_most
theorem dX2_guesses_0 : decode cX2_guesses 0 = .ok (.aload_n 0, 1) := by decide +kernel
theorem dX2_guesses_1 : decode cX2_guesses 1 = .ok (.iload_n 1, 1) := by decide +kernel
theorem dX2_guesses_2 : decode cX2_guesses 2 = .ok (.invokevirtual 81, 3) := by decide +kernel
theorem dX2_guesses_5 : decode cX2_guesses 5 = .ok (.bipush 65, 2) := by decide +kernel
theorem dX2_guesses_7 : decode cX2_guesses 7 = .ok (.iload_n 1, 1) := by decide +kernel
theorem dX2_guesses_8 : decode cX2_guesses 8 = .ok (.imul, 1) := by decide +kernel
theorem dX2_guesses_9 : decode cX2_guesses 9 = .ok (.istore_n 2, 1) := by decide +kernel
theorem dX2_guesses_10 : decode cX2_guesses 10 = .ok (.aload_n 0, 1) := by decide +kernel
theorem dX2_guesses_11 : decode cX2_guesses 11 = .ok (.getfield 44, 3) := by decide +kernel
theorem dX2_guesses_14 : decode cX2_guesses 14 = .ok (.iload_n 2, 1) := by decide +kernel
theorem dX2_guesses_15 : decode cX2_guesses 15 = .ok (.iconst 0, 1) := by decide +kernel
theorem dX2_guesses_16 : decode cX2_guesses 16 = .ok (.iastore, 1) := by decide +kernel
theorem dX2_guesses_17 : decode cX2_guesses 17 = .ok (.iconst 0, 1) := by decide +kernel
theorem dX2_guesses_18 : decode cX2_guesses 18 = .ok (.istore_n 3, 1) := by decide +kernel
theorem dX2_guesses_19 : decode cX2_guesses 19 = .ok (.iload_n 3, 1) := by decide +kernel
theorem dX2_guesses_20 : decode cX2_guesses 20 = .ok (.bipush 64, 2) := by decide +kernel
theorem dX2_guesses_22 : decode cX2_guesses 22 = .ok (.if_icmp .ge 140, 3) := by decide +kernel
theorem dX2_guesses_25 : decode cX2_guesses 25 = .ok (.iconst 0, 1) := by decide +kernel
theorem dX2_guesses_26 : decode cX2_guesses 26 = .ok (.istore 4, 2) := by decide +kernel
theorem dX2_guesses_28 : decode cX2_guesses 28 = .ok (.aload_n 0, 1) := by decide +kernel
theorem dX2_guesses_29 : decode cX2_guesses 29 = .ok (.getfield 7, 3) := by decide +kernel
theorem dX2_guesses_32 : decode cX2_guesses 32 = .ok (.iload_n 1, 1) := by decide +kernel
theorem dX2_guesses_33 : decode cX2_guesses 33 = .ok (.iaload, 1) := by decide +kernel
theorem dX2_guesses_34 : decode cX2_guesses 34 = .ok (.istore 5, 2) := by decide +kernel
theorem dX2_guesses_36 : decode cX2_guesses 36 = .ok (.iconst 0, 1) := by decide +kernel
theorem dX2_guesses_37 : decode cX2_guesses 37 = .ok (.istore 6, 2) := by decide +kernel
theorem dX2_guesses_39 : decode cX2_guesses 39 = .ok (.iload 6, 2) := by decide +kernel
theorem dX2_guesses_41 : decode cX2_guesses 41 = .ok (.iload_n 3, 1) := by decide +kernel
theorem dX2_guesses_42 : decode cX2_guesses 42 = .ok (.if_icmp .gt 61, 3) := by decide +kernel
theorem dX2_guesses_45 : decode cX2_guesses 45 = .ok (.iload 4, 2) := by decide +kernel
theorem dX2_guesses_47 : decode cX2_guesses 47 = .ok (.aload_n 0, 1) := by decide +kernel
theorem dX2_guesses_48 : decode cX2_guesses 48 = .ok (.getfield 44, 3) := by decide +kernel
theorem dX2_guesses_51 : decode cX2_guesses 51 = .ok (.iload_n 2, 1) := by decide +kernel
theorem dX2_guesses_52 : decode cX2_guesses 52 = .ok (.iload 6, 2) := by decide +kernel
theorem dX2_guesses_54 : decode cX2_guesses 54 = .ok (.iadd, 1) := by decide +kernel
theorem dX2_guesses_55 : decode cX2_guesses 55 = .ok (.iaload, 1) := by decide +kernel
theorem dX2_guesses_56 : decode cX2_guesses 56 = .ok (.aload_n 0, 1) := by decide +kernel
theorem dX2_guesses_57 : decode cX2_guesses 57 = .ok (.iload_n 3, 1) := by decide +kernel
theorem dX2_guesses_58 : decode cX2_guesses 58 = .ok (.iconst 1, 1) := by decide +kernel
theorem dX2_guesses_59 : decode cX2_guesses 59 = .ok (.iadd, 1) := by decide +kernel
theorem dX2_guesses_60 : decode cX2_guesses 60 = .ok (.iload 6, 2) := by decide +kernel
theorem dX2_guesses_62 : decode cX2_guesses 62 = .ok (.invokevirtual 74, 3) := by decide +kernel
theorem dX2_guesses_65 : decode cX2_guesses 65 = .ok (.isub, 1) := by decide +kernel
theorem dX2_guesses_66 : decode cX2_guesses 66 = .ok (.invokestatic 63, 3) := by decide +kernel
theorem dX2_guesses_69 : decode cX2_guesses 69 = .ok (.istore 4, 2) := by decide +kernel
theorem dX2_guesses_71 : decode cX2_guesses 71 = .ok (.iload 5, 2) := by decide +kernel
theorem dX2_guesses_73 : decode cX2_guesses 73 = .ok (.aload_n 0, 1) := by decide +kernel
theorem dX2_guesses_74 : decode cX2_guesses 74 = .ok (.getfield 44, 3) := by decide +kernel
theorem dX2_guesses_77 : decode cX2_guesses 77 = .ok (.iload_n 2, 1) := by decide +kernel
theorem dX2_guesses_78 : decode cX2_guesses 78 = .ok (.iload 6, 2) := by decide +kernel
theorem dX2_guesses_80 : decode cX2_guesses 80 = .ok (.iadd, 1) := by decide +kernel
theorem dX2_guesses_81 : decode cX2_guesses 81 = .ok (.iaload, 1) := by decide +kernel
theorem dX2_guesses_82 : decode cX2_guesses 82 = .ok (.aload_n 0, 1) := by decide +kernel
theorem dX2_guesses_83 : decode cX2_guesses 83 = .ok (.iload 6, 2) := by decide +kernel
theorem dX2_guesses_85 : decode cX2_guesses 85 = .ok (.iload_n 3, 1) := by decide +kernel
theorem dX2_guesses_86 : decode cX2_guesses 86 = .ok (.iconst 1, 1) := by decide +kernel
theorem dX2_guesses_87 : decode cX2_guesses 87 = .ok (.iadd, 1) := by decide +kernel
theorem dX2_guesses_88 : decode cX2_guesses 88 = .ok (.invokevirtual 74, 3) := by decide +kernel
theorem dX2_guesses_91 : decode cX2_guesses 91 = .ok (.iadd, 1) := by decide +kernel
theorem dX2_guesses_92 : decode cX2_guesses 92 = .ok (.invokestatic 57, 3) := by decide +kernel
theorem dX2_guesses_95 : decode cX2_guesses 95 = .ok (.istore 5, 2) := by decide +kernel
theorem dX2_guesses_97 : decode cX2_guesses 97 = .ok (.iinc 6 1, 3) := by decide +kernel
theorem dX2_guesses_100 : decode cX2_guesses 100 = .ok (.goto (-61), 3) := by decide +kernel
theorem dX2_guesses_103 : decode cX2_guesses 103 = .ok (.aload_n 0, 1) := by decide +kernel
theorem dX2_guesses_104 : decode cX2_guesses 104 = .ok (.getfield 44, 3) := by decide +kernel
theorem dX2_guesses_107 : decode cX2_guesses 107 = .ok (.iload_n 2, 1) := by decide +kernel
theorem dX2_guesses_108 : decode cX2_guesses 108 = .ok (.iload_n 3, 1) := by decide +kernel
theorem dX2_guesses_109 : decode cX2_guesses 109 = .ok (.iadd, 1) := by decide +kernel
theorem dX2_guesses_110 : decode cX2_guesses 110 = .ok (.iaload, 1) := by decide +kernel
theorem dX2_guesses_111 : decode cX2_guesses 111 = .ok (.aload_n 0, 1) := by decide +kernel
theorem dX2_guesses_112 : decode cX2_guesses 112 = .ok (.getfield 7, 3) := by decide +kernel
theorem dX2_guesses_115 : decode cX2_guesses 115 = .ok (.iload_n 1, 1) := by decide +kernel
theorem dX2_guesses_116 : decode cX2_guesses 116 = .ok (.iaload, 1) := by decide +kernel
theorem dX2_guesses_117 : decode cX2_guesses 117 = .ok (.aload_n 0, 1) := by decide +kernel
theorem dX2_guesses_118 : decode cX2_guesses 118 = .ok (.getfield 44, 3) := by decide +kernel
theorem dX2_guesses_121 : decode cX2_guesses 121 = .ok (.iload_n 2, 1) := by decide +kernel
theorem dX2_guesses_122 : decode cX2_guesses 122 = .ok (.iload_n 3, 1) := by decide +kernel
theorem dX2_guesses_123 : decode cX2_guesses 123 = .ok (.iadd, 1) := by decide +kernel
theorem dX2_guesses_124 : decode cX2_guesses 124 = .ok (.iaload, 1) := by decide +kernel
theorem dX2_guesses_125 : decode cX2_guesses 125 = .ok (.isub, 1) := by decide +kernel
theorem dX2_guesses_126 : decode cX2_guesses 126 = .ok (.bipush 64, 2) := by decide +kernel
theorem dX2_guesses_128 : decode cX2_guesses 128 = .ok (.iload_n 3, 1) := by decide +kernel
theorem dX2_guesses_129 : decode cX2_guesses 129 = .ok (.isub, 1) := by decide +kernel
theorem dX2_guesses_130 : decode cX2_guesses 130 = .ok (.idiv, 1) := by decide +kernel
theorem dX2_guesses_131 : decode cX2_guesses 131 = .ok (.iadd, 1) := by decide +kernel
theorem dX2_guesses_132 : decode cX2_guesses 132 = .ok (.istore 6, 2) := by decide +kernel
theorem dX2_guesses_134 : decode cX2_guesses 134 = .ok (.aload_n 0, 1) := by decide +kernel
theorem dX2_guesses_135 : decode cX2_guesses 135 = .ok (.getfield 44, 3) := by decide +kernel
theorem dX2_guesses_138 : decode cX2_guesses 138 = .ok (.iload_n 2, 1) := by decide +kernel
theorem dX2_guesses_139 : decode cX2_guesses 139 = .ok (.iload_n 3, 1) := by decide +kernel
theorem dX2_guesses_140 : decode cX2_guesses 140 = .ok (.iadd, 1) := by decide +kernel
theorem dX2_guesses_141 : decode cX2_guesses 141 = .ok (.iconst 1, 1) := by decide +kernel
theorem dX2_guesses_142 : decode cX2_guesses 142 = .ok (.iadd, 1) := by decide +kernel
theorem dX2_guesses_143 : decode cX2_guesses 143 = .ok (.iload 4, 2) := by decide +kernel
theorem dX2_guesses_145 : decode cX2_guesses 145 = .ok (.iload 5, 2) := by decide +kernel
theorem dX2_guesses_147 : decode cX2_guesses 147 = .ok (.iload 6, 2) := by decide +kernel
theorem dX2_guesses_149 : decode cX2_guesses 149 = .ok (.invokestatic 57, 3) := by decide +kernel
theorem dX2_guesses_152 : decode cX2_guesses 152 = .ok (.invokestatic 63, 3) := by decide +kernel
theorem dX2_guesses_155 : decode cX2_guesses 155 = .ok (.iastore, 1) := by decide +kernel
theorem dX2_guesses_156 : decode cX2_guesses 156 = .ok (.iinc 3 1, 3) := by decide +kernel
theorem dX2_guesses_159 : decode cX2_guesses 159 = .ok (.goto (-140), 3) := by decide +kernel
theorem dX2_guesses_162 : decode cX2_guesses 162 = .ok (.return_, 1) := by decide +kernel
theorem dX2_guessOf_0 : decode cX2_guessOf 0 = .ok (.aload_n 0, 1) := by decide +kernel
theorem dX2_guessOf_1 : decode cX2_guessOf 1 = .ok (.getfield 44, 3) := by decide +kernel
theorem dX2_guessOf_4 : decode cX2_guessOf 4 = .ok (.bipush 65, 2) := by decide +kernel
theorem dX2_guessOf_6 : decode cX2_guessOf 6 = .ok (.iload_n 1, 1) := by decide +kernel
theorem dX2_guessOf_7 : decode cX2_guessOf 7 = .ok (.imul, 1) := by decide +kernel
theorem dX2_guessOf_8 : decode cX2_guessOf 8 = .ok (.iload_n 2, 1) := by decide +kernel
theorem dX2_guessOf_9 : decode cX2_guessOf 9 = .ok (.iadd, 1) := by decide +kernel
theorem dX2_guessOf_10 : decode cX2_guessOf 10 = .ok (.iconst 1, 1) := by decide +kernel
theorem dX2_guessOf_11 : decode cX2_guessOf 11 = .ok (.iadd, 1) := by decide +kernel
theorem dX2_guessOf_12 : decode cX2_guessOf 12 = .ok (.iaload, 1) := by decide +kernel
theorem dX2_guessOf_13 : decode cX2_guessOf 13 = .ok (.aload_n 0, 1) := by decide +kernel
theorem dX2_guessOf_14 : decode cX2_guessOf 14 = .ok (.getfield 44, 3) := by decide +kernel
theorem dX2_guessOf_17 : decode cX2_guessOf 17 = .ok (.bipush 65, 2) := by decide +kernel
theorem dX2_guessOf_19 : decode cX2_guessOf 19 = .ok (.iload_n 1, 1) := by decide +kernel
theorem dX2_guessOf_20 : decode cX2_guessOf 20 = .ok (.imul, 1) := by decide +kernel
theorem dX2_guessOf_21 : decode cX2_guessOf 21 = .ok (.iload_n 2, 1) := by decide +kernel
theorem dX2_guessOf_22 : decode cX2_guessOf 22 = .ok (.iadd, 1) := by decide +kernel
theorem dX2_guessOf_23 : decode cX2_guessOf 23 = .ok (.iaload, 1) := by decide +kernel
theorem dX2_guessOf_24 : decode cX2_guessOf 24 = .ok (.isub, 1) := by decide +kernel
theorem dX2_guessOf_25 : decode cX2_guessOf 25 = .ok (.i2l, 1) := by decide +kernel
theorem dX2_guessOf_26 : decode cX2_guessOf 26 = .ok (.lreturn, 1) := by decide +kernel
set_option maxRecDepth 20000 in
theorem ggX2_guess_X2_isTable : GoodIn wsX2_guess wsX2_isTable := goodIn_r _ [5, 6, 7, 4, 8] (by decide +kernel) (by decide +kernel)
set_option maxRecDepth 20000 in
theorem gX2_guess_X2_isTable : GoodIn wsX2_guess (va_wsS RX2 51 yX2_isTable wsX2_isTable) := goodIn_app (goodIn_of _ (by decide +kernel)) ggX2_guess_X2_isTable
set_option maxRecDepth 20000 in
theorem ggX2_guess_X2_isSpan : GoodIn wsX2_guess wsX2_isSpan := goodIn_r _ [11] (by decide +kernel) (by decide +kernel)
set_option maxRecDepth 20000 in
theorem gX2_guess_X2_isSpan : GoodIn wsX2_guess (va_wsS RX2 66 yX2_isSpan wsX2_isSpan) := goodIn_app (goodIn_of _ (by decide +kernel)) ggX2_guess_X2_isSpan
set_option maxRecDepth 20000 in
theorem ggX2_guess_X2_guesses : GoodIn wsX2_guess wsX2_guesses := goodIn_r _ [15, 1, 16, 17, 18, 19, 20, 21, 22, 23, 24, 25, 26, 4, 27, 28, 29, 30, 31, 32, 33, 34, 35, 36, 37, 38, 39, 40, 41, 42, 43, 44, 45, 46, 47, 48, 49, 50, 51, 52, 53, 54, 55, 56] (by decide +kernel) (by decide +kernel)
set_option maxRecDepth 20000 in
theorem gX2_guess_X2_guesses : GoodIn wsX2_guess (wsV RX2 85 RX2 yX2_guesses wsX2_guesses) := goodIn_app (goodIn_of _ (by decide +kernel)) ggX2_guess_X2_guesses
theorem dX2_guess_0 : decode cX2_guess 0 = .ok (.iload_n 1, 1) := by decide +kernel
theorem dX2_guess_1 : decode cX2_guess 1 = .ok (.invokestatic 51, 3) := by decide +kernel
theorem dX2_guess_4 : decode cX2_guess 4 = .ok (.ifCond .eq 11, 3) := by decide +kernel
theorem dX2_guess_7 : decode cX2_guess 7 = .ok (.iload_n 2, 1) := by decide +kernel
theorem dX2_guess_8 : decode cX2_guess 8 = .ok (.iload_n 3, 1) := by decide +kernel
theorem dX2_guess_9 : decode cX2_guess 9 = .ok (.invokestatic 66, 3) := by decide +kernel
theorem dX2_guess_12 : decode cX2_guess 12 = .ok (.ifCond .ne 5, 3) := by decide +kernel
theorem dX2_guess_15 : decode cX2_guess 15 = .ok (.iconst (-1), 1) := by decide +kernel
theorem dX2_guess_16 : decode cX2_guess 16 = .ok (.ireturn, 1) := by decide +kernel
theorem dX2_guess_17 : decode cX2_guess 17 = .ok (.aload_n 0, 1) := by decide +kernel
theorem dX2_guess_18 : decode cX2_guess 18 = .ok (.iload_n 1, 1) := by decide +kernel
theorem dX2_guess_19 : decode cX2_guess 19 = .ok (.invokevirtual 85, 3) := by decide +kernel
theorem dX2_guess_22 : decode cX2_guess 22 = .ok (.aload_n 0, 1) := by decide +kernel
theorem dX2_guess_23 : decode cX2_guess 23 = .ok (.getfield 44, 3) := by decide +kernel
theorem dX2_guess_26 : decode cX2_guess 26 = .ok (.bipush 65, 2) := by decide +kernel
theorem dX2_guess_28 : decode cX2_guess 28 = .ok (.iload_n 1, 1) := by decide +kernel
theorem dX2_guess_29 : decode cX2_guess 29 = .ok (.imul, 1) := by decide +kernel
theorem dX2_guess_30 : decode cX2_guess 30 = .ok (.iload_n 3, 1) := by decide +kernel
theorem dX2_guess_31 : decode cX2_guess 31 = .ok (.iadd, 1) := by decide +kernel
theorem dX2_guess_32 : decode cX2_guess 32 = .ok (.iaload, 1) := by decide +kernel
theorem dX2_guess_33 : decode cX2_guess 33 = .ok (.aload_n 0, 1) := by decide +kernel
theorem dX2_guess_34 : decode cX2_guess 34 = .ok (.getfield 44, 3) := by decide +kernel
theorem dX2_guess_37 : decode cX2_guess 37 = .ok (.bipush 65, 2) := by decide +kernel
theorem dX2_guess_39 : decode cX2_guess 39 = .ok (.iload_n 1, 1) := by decide +kernel
theorem dX2_guess_40 : decode cX2_guess 40 = .ok (.imul, 1) := by decide +kernel
theorem dX2_guess_41 : decode cX2_guess 41 = .ok (.iload_n 2, 1) := by decide +kernel
theorem dX2_guess_42 : decode cX2_guess 42 = .ok (.iadd, 1) := by decide +kernel
theorem dX2_guess_43 : decode cX2_guess 43 = .ok (.iaload, 1) := by decide +kernel
theorem dX2_guess_44 : decode cX2_guess 44 = .ok (.isub, 1) := by decide +kernel
theorem dX2_guess_45 : decode cX2_guess 45 = .ok (.ireturn, 1) := by decide +kernel
set_option maxRecDepth 20000 in
theorem ggX2_join_X2_isTable : GoodIn wsX2_join wsX2_isTable := goodIn_r _ [5, 6, 7, 4, 8] (by decide +kernel) (by decide +kernel)
set_option maxRecDepth 20000 in
theorem gX2_join_X2_isTable : GoodIn wsX2_join (va_wsS RX2 51 yX2_isTable wsX2_isTable) := goodIn_app (goodIn_of _ (by decide +kernel)) ggX2_join_X2_isTable
set_option maxRecDepth 20000 in
theorem ggX2_join_X2_isSpan : GoodIn wsX2_join wsX2_isSpan := goodIn_r _ [11] (by decide +kernel) (by decide +kernel)
set_option maxRecDepth 20000 in
theorem gX2_join_X2_isSpan : GoodIn wsX2_join (va_wsS RX2 66 yX2_isSpan wsX2_isSpan) := goodIn_app (goodIn_of _ (by decide +kernel)) ggX2_join_X2_isSpan
set_option maxRecDepth 20000 in
theorem ggX2_join_X2_guesses : GoodIn wsX2_join wsX2_guesses := goodIn_r _ [15, 16, 17, 18, 19, 20, 21, 22, 23, 24, 25, 26, 27, 4, 28, 29, 30, 31, 32, 33, 34, 35, 36, 37, 38, 39, 40, 41, 42, 43, 44, 45, 50, 51, 52, 53, 54, 55, 56, 57, 58, 59, 60, 61] (by decide +kernel) (by decide +kernel)
set_option maxRecDepth 20000 in
theorem gX2_join_X2_guesses : GoodIn wsX2_join (wsV RX2 85 RX2 yX2_guesses wsX2_guesses) := goodIn_app (goodIn_of _ (by decide +kernel)) ggX2_join_X2_guesses
set_option maxRecDepth 20000 in
theorem ggX2_join_X2_guessOf : GoodIn wsX2_join wsX2_guessOf := goodIn_r _ [49, 16, 50, 51, 52, 53, 54, 55, 56, 57, 58, 59, 60, 61] (by decide +kernel) (by decide +kernel)
set_option maxRecDepth 20000 in
theorem gX2_join_X2_guessOf : GoodIn wsX2_join (wsV RX2 90 RX2 yX2_guessOf wsX2_guessOf) := goodIn_app (goodIn_of _ (by decide +kernel)) ggX2_join_X2_guessOf
theorem dX2_join_0 : decode cX2_join 0 = .ok (.iload_n 1, 1) := by decide +kernel
theorem dX2_join_1 : decode cX2_join 1 = .ok (.invokestatic 51, 3) := by decide +kernel
theorem dX2_join_4 : decode cX2_join 4 = .ok (.ifCond .eq 19, 3) := by decide +kernel
theorem dX2_join_7 : decode cX2_join 7 = .ok (.iload_n 2, 1) := by decide +kernel
theorem dX2_join_8 : decode cX2_join 8 = .ok (.invokestatic 51, 3) := by decide +kernel
theorem dX2_join_11 : decode cX2_join 11 = .ok (.ifCond .eq 12, 3) := by decide +kernel
theorem dX2_join_14 : decode cX2_join 14 = .ok (.iload_n 3, 1) := by decide +kernel
theorem dX2_join_15 : decode cX2_join 15 = .ok (.iload 4, 2) := by decide +kernel
theorem dX2_join_17 : decode cX2_join 17 = .ok (.invokestatic 66, 3) := by decide +kernel
theorem dX2_join_20 : decode cX2_join 20 = .ok (.ifCond .ne 7, 3) := by decide +kernel
theorem dX2_join_23 : decode cX2_join 23 = .ok (.ldc2_w 88, 3) := by decide +kernel
theorem dX2_join_26 : decode cX2_join 26 = .ok (.lreturn, 1) := by decide +kernel
theorem dX2_join_27 : decode cX2_join 27 = .ok (.aload_n 0, 1) := by decide +kernel
theorem dX2_join_28 : decode cX2_join 28 = .ok (.iload_n 1, 1) := by decide +kernel
theorem dX2_join_29 : decode cX2_join 29 = .ok (.invokevirtual 85, 3) := by decide +kernel
theorem dX2_join_32 : decode cX2_join 32 = .ok (.aload_n 0, 1) := by decide +kernel
theorem dX2_join_33 : decode cX2_join 33 = .ok (.iload_n 2, 1) := by decide +kernel
theorem dX2_join_34 : decode cX2_join 34 = .ok (.invokevirtual 85, 3) := by decide +kernel
theorem dX2_join_37 : decode cX2_join 37 = .ok (.lconst 0, 1) := by decide +kernel
theorem dX2_join_38 : decode cX2_join 38 = .ok (.lstore 5, 2) := by decide +kernel
theorem dX2_join_40 : decode cX2_join 40 = .ok (.iload_n 3, 1) := by decide +kernel
theorem dX2_join_41 : decode cX2_join 41 = .ok (.istore 7, 2) := by decide +kernel
theorem dX2_join_43 : decode cX2_join 43 = .ok (.iload 7, 2) := by decide +kernel
theorem dX2_join_45 : decode cX2_join 45 = .ok (.iload 4, 2) := by decide +kernel
theorem dX2_join_47 : decode cX2_join 47 = .ok (.if_icmp .ge 29, 3) := by decide +kernel
theorem dX2_join_50 : decode cX2_join 50 = .ok (.lload 5, 2) := by decide +kernel
theorem dX2_join_52 : decode cX2_join 52 = .ok (.aload_n 0, 1) := by decide +kernel
theorem dX2_join_53 : decode cX2_join 53 = .ok (.iload_n 1, 1) := by decide +kernel
theorem dX2_join_54 : decode cX2_join 54 = .ok (.iload 7, 2) := by decide +kernel
theorem dX2_join_56 : decode cX2_join 56 = .ok (.invokevirtual 90, 3) := by decide +kernel
theorem dX2_join_59 : decode cX2_join 59 = .ok (.aload_n 0, 1) := by decide +kernel
theorem dX2_join_60 : decode cX2_join 60 = .ok (.iload_n 2, 1) := by decide +kernel
theorem dX2_join_61 : decode cX2_join 61 = .ok (.iload 7, 2) := by decide +kernel
theorem dX2_join_63 : decode cX2_join 63 = .ok (.invokevirtual 90, 3) := by decide +kernel
theorem dX2_join_66 : decode cX2_join 66 = .ok (.lmul, 1) := by decide +kernel
theorem dX2_join_67 : decode cX2_join 67 = .ok (.ladd, 1) := by decide +kernel
theorem dX2_join_68 : decode cX2_join 68 = .ok (.lstore 5, 2) := by decide +kernel
theorem dX2_join_70 : decode cX2_join 70 = .ok (.iinc 7 1, 3) := by decide +kernel
theorem dX2_join_73 : decode cX2_join 73 = .ok (.goto (-30), 3) := by decide +kernel
theorem dX2_join_76 : decode cX2_join 76 = .ok (.lload 5, 2) := by decide +kernel
theorem dX2_join_78 : decode cX2_join 78 = .ok (.lreturn, 1) := by decide +kernel
set_option maxRecDepth 20000 in
theorem ggX2_truth_X2_isTable : GoodIn wsX2_truth wsX2_isTable := goodIn_r _ [6, 7, 8, 5, 9] (by decide +kernel) (by decide +kernel)
set_option maxRecDepth 20000 in
theorem gX2_truth_X2_isTable : GoodIn wsX2_truth (va_wsS RX2 51 yX2_isTable wsX2_isTable) := goodIn_app (goodIn_of _ (by decide +kernel)) ggX2_truth_X2_isTable
set_option maxRecDepth 20000 in
theorem ggX2_truth_X2_isIn : GoodIn wsX2_truth wsX2_isIn := goodIn_r _ [9] (by decide +kernel) (by decide +kernel)
set_option maxRecDepth 20000 in
theorem gX2_truth_X2_isIn : GoodIn wsX2_truth (va_wsS RX2 47 yX2_isIn wsX2_isIn) := goodIn_app (goodIn_of _ (by decide +kernel)) ggX2_truth_X2_isIn
theorem dX2_truth_0 : decode cX2_truth 0 = .ok (.iload_n 1, 1) := by decide +kernel
theorem dX2_truth_1 : decode cX2_truth 1 = .ok (.invokestatic 51, 3) := by decide +kernel
theorem dX2_truth_4 : decode cX2_truth 4 = .ok (.ifCond .eq 23, 3) := by decide +kernel
theorem dX2_truth_7 : decode cX2_truth 7 = .ok (.iload_n 2, 1) := by decide +kernel
theorem dX2_truth_8 : decode cX2_truth 8 = .ok (.iconst 0, 1) := by decide +kernel
theorem dX2_truth_9 : decode cX2_truth 9 = .ok (.bipush 63, 2) := by decide +kernel
theorem dX2_truth_11 : decode cX2_truth 11 = .ok (.invokestatic 47, 3) := by decide +kernel
theorem dX2_truth_14 : decode cX2_truth 14 = .ok (.ifCond .eq 13, 3) := by decide +kernel
theorem dX2_truth_17 : decode cX2_truth 17 = .ok (.iload_n 3, 1) := by decide +kernel
theorem dX2_truth_18 : decode cX2_truth 18 = .ok (.iconst 0, 1) := by decide +kernel
theorem dX2_truth_19 : decode cX2_truth 19 = .ok (.ldc 94, 2) := by decide +kernel
theorem dX2_truth_21 : decode cX2_truth 21 = .ok (.invokestatic 47, 3) := by decide +kernel
theorem dX2_truth_24 : decode cX2_truth 24 = .ok (.ifCond .ne 5, 3) := by decide +kernel
theorem dX2_truth_27 : decode cX2_truth 27 = .ok (.iconst 0, 1) := by decide +kernel
theorem dX2_truth_28 : decode cX2_truth 28 = .ok (.ireturn, 1) := by decide +kernel
theorem dX2_truth_29 : decode cX2_truth 29 = .ok (.aload_n 0, 1) := by decide +kernel
theorem dX2_truth_30 : decode cX2_truth 30 = .ok (.getfield 34, 3) := by decide +kernel
theorem dX2_truth_33 : decode cX2_truth 33 = .ok (.bipush 64, 2) := by decide +kernel
theorem dX2_truth_35 : decode cX2_truth 35 = .ok (.iload_n 1, 1) := by decide +kernel
theorem dX2_truth_36 : decode cX2_truth 36 = .ok (.imul, 1) := by decide +kernel
theorem dX2_truth_37 : decode cX2_truth 37 = .ok (.iload_n 2, 1) := by decide +kernel
theorem dX2_truth_38 : decode cX2_truth 38 = .ok (.iadd, 1) := by decide +kernel
theorem dX2_truth_39 : decode cX2_truth 39 = .ok (.iload_n 3, 1) := by decide +kernel
theorem dX2_truth_40 : decode cX2_truth 40 = .ok (.iastore, 1) := by decide +kernel
theorem dX2_truth_41 : decode cX2_truth 41 = .ok (.iconst 1, 1) := by decide +kernel
theorem dX2_truth_42 : decode cX2_truth 42 = .ok (.ireturn, 1) := by decide +kernel
theorem dX2_trueIn_0 : decode cX2_trueIn 0 = .ok (.lconst 0, 1) := by decide +kernel
theorem dX2_trueIn_1 : decode cX2_trueIn 1 = .ok (.lstore 4, 2) := by decide +kernel
theorem dX2_trueIn_3 : decode cX2_trueIn 3 = .ok (.iload_n 2, 1) := by decide +kernel
theorem dX2_trueIn_4 : decode cX2_trueIn 4 = .ok (.istore 6, 2) := by decide +kernel
theorem dX2_trueIn_6 : decode cX2_trueIn 6 = .ok (.iload 6, 2) := by decide +kernel
theorem dX2_trueIn_8 : decode cX2_trueIn 8 = .ok (.iload_n 3, 1) := by decide +kernel
theorem dX2_trueIn_9 : decode cX2_trueIn 9 = .ok (.if_icmp .ge 27, 3) := by decide +kernel
theorem dX2_trueIn_12 : decode cX2_trueIn 12 = .ok (.lload 4, 2) := by decide +kernel
theorem dX2_trueIn_14 : decode cX2_trueIn 14 = .ok (.aload_n 0, 1) := by decide +kernel
theorem dX2_trueIn_15 : decode cX2_trueIn 15 = .ok (.getfield 34, 3) := by decide +kernel
theorem dX2_trueIn_18 : decode cX2_trueIn 18 = .ok (.bipush 64, 2) := by decide +kernel
theorem dX2_trueIn_20 : decode cX2_trueIn 20 = .ok (.iload_n 1, 1) := by decide +kernel
theorem dX2_trueIn_21 : decode cX2_trueIn 21 = .ok (.imul, 1) := by decide +kernel
theorem dX2_trueIn_22 : decode cX2_trueIn 22 = .ok (.iload 6, 2) := by decide +kernel
theorem dX2_trueIn_24 : decode cX2_trueIn 24 = .ok (.iadd, 1) := by decide +kernel
theorem dX2_trueIn_25 : decode cX2_trueIn 25 = .ok (.iaload, 1) := by decide +kernel
theorem dX2_trueIn_26 : decode cX2_trueIn 26 = .ok (.i2l, 1) := by decide +kernel
theorem dX2_trueIn_27 : decode cX2_trueIn 27 = .ok (.ladd, 1) := by decide +kernel
theorem dX2_trueIn_28 : decode cX2_trueIn 28 = .ok (.lstore 4, 2) := by decide +kernel
theorem dX2_trueIn_30 : decode cX2_trueIn 30 = .ok (.iinc 6 1, 3) := by decide +kernel
theorem dX2_trueIn_33 : decode cX2_trueIn 33 = .ok (.goto (-27), 3) := by decide +kernel
theorem dX2_trueIn_36 : decode cX2_trueIn 36 = .ok (.lload 4, 2) := by decide +kernel
theorem dX2_trueIn_38 : decode cX2_trueIn 38 = .ok (.lreturn, 1) := by decide +kernel
set_option maxRecDepth 20000 in
theorem ggX2_agrees_X2_isTable : GoodIn wsX2_agrees wsX2_isTable := goodIn_r _ [12, 13, 14, 11, 15] (by decide +kernel) (by decide +kernel)
set_option maxRecDepth 20000 in
theorem gX2_agrees_X2_isTable : GoodIn wsX2_agrees (va_wsS RX2 51 yX2_isTable wsX2_isTable) := goodIn_app (goodIn_of _ (by decide +kernel)) ggX2_agrees_X2_isTable
set_option maxRecDepth 20000 in
theorem ggX2_agrees_X2_closes : GoodIn wsX2_agrees wsX2_closes := goodIn_r _ [19, 20, 21, 1, 2, 22, 5, 6, 4, 3, 23, 24, 25, 26, 7, 27, 28, 29, 30, 31, 32, 11, 33, 34, 35, 36, 37, 43, 44, 45, 46, 47, 48, 49, 50, 51, 52, 53, 54] (by decide +kernel) (by decide +kernel)
set_option maxRecDepth 20000 in
theorem gX2_agrees_X2_closes : GoodIn wsX2_agrees (wsV RX2 81 RX2 yX2_closes wsX2_closes) := goodIn_app (goodIn_of _ (by decide +kernel)) ggX2_agrees_X2_closes
set_option maxRecDepth 20000 in
theorem ggX2_agrees_X2_trueIn : GoodIn wsX2_agrees wsX2_trueIn := goodIn_r _ [41, 42, 43, 44, 45, 46, 47, 48, 49, 50, 51, 52, 53, 54] (by decide +kernel) (by decide +kernel)
set_option maxRecDepth 20000 in
theorem gX2_agrees_X2_trueIn : GoodIn wsX2_agrees (wsV RX2 95 RX2 yX2_trueIn wsX2_trueIn) := goodIn_app (goodIn_of _ (by decide +kernel)) ggX2_agrees_X2_trueIn
theorem dX2_agrees_0 : decode cX2_agrees 0 = .ok (.iload_n 1, 1) := by decide +kernel
theorem dX2_agrees_1 : decode cX2_agrees 1 = .ok (.invokestatic 51, 3) := by decide +kernel
theorem dX2_agrees_4 : decode cX2_agrees 4 = .ok (.ifCond .ne 5, 3) := by decide +kernel
theorem dX2_agrees_7 : decode cX2_agrees 7 = .ok (.iconst (-1), 1) := by decide +kernel
theorem dX2_agrees_8 : decode cX2_agrees 8 = .ok (.ireturn, 1) := by decide +kernel
theorem dX2_agrees_9 : decode cX2_agrees 9 = .ok (.aload_n 0, 1) := by decide +kernel
theorem dX2_agrees_10 : decode cX2_agrees 10 = .ok (.iload_n 1, 1) := by decide +kernel
theorem dX2_agrees_11 : decode cX2_agrees 11 = .ok (.invokevirtual 81, 3) := by decide +kernel
theorem dX2_agrees_14 : decode cX2_agrees 14 = .ok (.aload_n 0, 1) := by decide +kernel
theorem dX2_agrees_15 : decode cX2_agrees 15 = .ok (.iload_n 1, 1) := by decide +kernel
theorem dX2_agrees_16 : decode cX2_agrees 16 = .ok (.iconst 0, 1) := by decide +kernel
theorem dX2_agrees_17 : decode cX2_agrees 17 = .ok (.bipush 64, 2) := by decide +kernel
theorem dX2_agrees_19 : decode cX2_agrees 19 = .ok (.invokevirtual 95, 3) := by decide +kernel
theorem dX2_agrees_22 : decode cX2_agrees 22 = .ok (.aload_n 0, 1) := by decide +kernel
theorem dX2_agrees_23 : decode cX2_agrees 23 = .ok (.getfield 7, 3) := by decide +kernel
theorem dX2_agrees_26 : decode cX2_agrees 26 = .ok (.iload_n 1, 1) := by decide +kernel
theorem dX2_agrees_27 : decode cX2_agrees 27 = .ok (.iaload, 1) := by decide +kernel
theorem dX2_agrees_28 : decode cX2_agrees 28 = .ok (.i2l, 1) := by decide +kernel
theorem dX2_agrees_29 : decode cX2_agrees 29 = .ok (.lcmp, 1) := by decide +kernel
theorem dX2_agrees_30 : decode cX2_agrees 30 = .ok (.ifCond .ne 7, 3) := by decide +kernel
theorem dX2_agrees_33 : decode cX2_agrees 33 = .ok (.iconst 1, 1) := by decide +kernel
theorem dX2_agrees_34 : decode cX2_agrees 34 = .ok (.goto 4, 3) := by decide +kernel
theorem dX2_agrees_37 : decode cX2_agrees 37 = .ok (.iconst 0, 1) := by decide +kernel
theorem dX2_agrees_38 : decode cX2_agrees 38 = .ok (.istore_n 2, 1) := by decide +kernel
theorem dX2_agrees_39 : decode cX2_agrees 39 = .ok (.bipush 40, 2) := by decide +kernel
