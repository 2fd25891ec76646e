theorem dX7_isMemory_104 : decode cX7_isMemory 104 = .ok (.goto 4, 3) := by decide +kernel
theorem dX7_isMemory_107 : decode cX7_isMemory 107 = .ok (.iconst 0, 1) := by decide +kernel
theorem dX7_isMemory_108 : decode cX7_isMemory 108 = .ok (.ireturn, 1) := by decide +kernel
set_option maxRecDepth 20000 in
theorem ggX7_putMemory_X7_put : GoodIn wsX7_putMemory wsX7_put := goodIn_r _ [6, 7, 8, 14, 15, 16, 17, 18, 19, 20, 21, 22, 23, 24, 25, 26, 27, 28, 29, 30, 31, 32, 33, 34, 35, 36] rfl (by decide +kernel)
set_option maxRecDepth 20000 in
theorem gX7_putMemory_X7_put : GoodIn wsX7_putMemory (wsV RX7 82 RX7 yX7_put wsX7_put) := goodIn_app (goodIn_of _ (by decide +kernel)) ggX7_putMemory_X7_put
set_option maxRecDepth 20000 in
theorem ggX7_putMemory_X7_putAll : GoodIn wsX7_putMemory wsX7_putAll := goodIn_r _ [12, 13, 2, 3, 4, 5, 6, 7, 8, 14, 15, 16, 17, 18, 19, 20, 21, 22, 23, 24, 25, 26, 27, 28, 29, 30, 31, 32, 33, 34, 35, 36] rfl (by decide +kernel)
set_option maxRecDepth 20000 in
theorem gX7_putMemory_X7_putAll : GoodIn wsX7_putMemory (wsV RX7 86 RX7 yX7_putAll wsX7_putAll) := goodIn_app (goodIn_of _ (by decide +kernel)) ggX7_putMemory_X7_putAll
theorem dX7_putMemory_0 : decode cX7_putMemory 0 = .ok (.aload_n 0, 1) := by decide +kernel
theorem dX7_putMemory_1 : decode cX7_putMemory 1 = .ok (.getfield 31, 3) := by decide +kernel
theorem dX7_putMemory_4 : decode cX7_putMemory 4 = .ok (.bipush 9, 2) := by decide +kernel
theorem dX7_putMemory_6 : decode cX7_putMemory 6 = .ok (.iaload, 1) := by decide +kernel
theorem dX7_putMemory_7 : decode cX7_putMemory 7 = .ok (.istore_n 2, 1) := by decide +kernel
theorem dX7_putMemory_8 : decode cX7_putMemory 8 = .ok (.aload_n 0, 1) := by decide +kernel
theorem dX7_putMemory_9 : decode cX7_putMemory 9 = .ok (.getfield 31, 3) := by decide +kernel
theorem dX7_putMemory_12 : decode cX7_putMemory 12 = .ok (.bipush 10, 2) := by decide +kernel
theorem dX7_putMemory_14 : decode cX7_putMemory 14 = .ok (.iaload, 1) := by decide +kernel
theorem dX7_putMemory_15 : decode cX7_putMemory 15 = .ok (.istore_n 3, 1) := by decide +kernel
theorem dX7_putMemory_16 : decode cX7_putMemory 16 = .ok (.aload_n 0, 1) := by decide +kernel
theorem dX7_putMemory_17 : decode cX7_putMemory 17 = .ok (.getfield 31, 3) := by decide +kernel
theorem dX7_putMemory_20 : decode cX7_putMemory 20 = .ok (.bipush 11, 2) := by decide +kernel
theorem dX7_putMemory_22 : decode cX7_putMemory 22 = .ok (.iaload, 1) := by decide +kernel
theorem dX7_putMemory_23 : decode cX7_putMemory 23 = .ok (.istore 4, 2) := by decide +kernel
theorem dX7_putMemory_25 : decode cX7_putMemory 25 = .ok (.aload_n 0, 1) := by decide +kernel
theorem dX7_putMemory_26 : decode cX7_putMemory 26 = .ok (.getfield 31, 3) := by decide +kernel
theorem dX7_putMemory_29 : decode cX7_putMemory 29 = .ok (.bipush 12, 2) := by decide +kernel
theorem dX7_putMemory_31 : decode cX7_putMemory 31 = .ok (.iaload, 1) := by decide +kernel
theorem dX7_putMemory_32 : decode cX7_putMemory 32 = .ok (.istore 5, 2) := by decide +kernel
theorem dX7_putMemory_34 : decode cX7_putMemory 34 = .ok (.iload_n 2, 1) := by decide +kernel
theorem dX7_putMemory_35 : decode cX7_putMemory 35 = .ok (.iconst (-1), 1) := by decide +kernel
theorem dX7_putMemory_36 : decode cX7_putMemory 36 = .ok (.if_icmp .eq 9, 3) := by decide +kernel
theorem dX7_putMemory_39 : decode cX7_putMemory 39 = .ok (.iload_n 2, 1) := by decide +kernel
theorem dX7_putMemory_40 : decode cX7_putMemory 40 = .ok (.bipush 16, 2) := by decide +kernel
theorem dX7_putMemory_42 : decode cX7_putMemory 42 = .ok (.if_icmp .ne 7, 3) := by decide +kernel
theorem dX7_putMemory_45 : decode cX7_putMemory 45 = .ok (.iconst 1, 1) := by decide +kernel
theorem dX7_putMemory_46 : decode cX7_putMemory 46 = .ok (.goto 4, 3) := by decide +kernel
theorem dX7_putMemory_49 : decode cX7_putMemory 49 = .ok (.iconst 0, 1) := by decide +kernel
theorem dX7_putMemory_50 : decode cX7_putMemory 50 = .ok (.istore 6, 2) := by decide +kernel
theorem dX7_putMemory_52 : decode cX7_putMemory 52 = .ok (.iload 6, 2) := by decide +kernel
theorem dX7_putMemory_54 : decode cX7_putMemory 54 = .ok (.ifCond .ne 16, 3) := by decide +kernel
theorem dX7_putMemory_57 : decode cX7_putMemory 57 = .ok (.iload 5, 2) := by decide +kernel
theorem dX7_putMemory_59 : decode cX7_putMemory 59 = .ok (.ifCond .ne 15, 3) := by decide +kernel
theorem dX7_putMemory_62 : decode cX7_putMemory 62 = .ok (.iload_n 2, 1) := by decide +kernel
theorem dX7_putMemory_63 : decode cX7_putMemory 63 = .ok (.bipush 7, 2) := by decide +kernel
theorem dX7_putMemory_65 : decode cX7_putMemory 65 = .ok (.iand, 1) := by decide +kernel
theorem dX7_putMemory_66 : decode cX7_putMemory 66 = .ok (.iconst 5, 1) := by decide +kernel
theorem dX7_putMemory_67 : decode cX7_putMemory 67 = .ok (.if_icmp .eq 7, 3) := by decide +kernel
theorem dX7_putMemory_70 : decode cX7_putMemory 70 = .ok (.iconst 0, 1) := by decide +kernel
theorem dX7_putMemory_71 : decode cX7_putMemory 71 = .ok (.goto 23, 3) := by decide +kernel
theorem dX7_putMemory_74 : decode cX7_putMemory 74 = .ok (.iload 5, 2) := by decide +kernel
theorem dX7_putMemory_76 : decode cX7_putMemory 76 = .ok (.bipush (-128), 2) := by decide +kernel
theorem dX7_putMemory_78 : decode cX7_putMemory 78 = .ok (.if_icmp .lt 15, 3) := by decide +kernel
theorem dX7_putMemory_81 : decode cX7_putMemory 81 = .ok (.iload 5, 2) := by decide +kernel
theorem dX7_putMemory_83 : decode cX7_putMemory 83 = .ok (.sipush 128, 3) := by decide +kernel
theorem dX7_putMemory_86 : decode cX7_putMemory 86 = .ok (.if_icmp .ge 7, 3) := by decide +kernel
theorem dX7_putMemory_89 : decode cX7_putMemory 89 = .ok (.iconst 1, 1) := by decide +kernel
theorem dX7_putMemory_90 : decode cX7_putMemory 90 = .ok (.goto 4, 3) := by decide +kernel
theorem dX7_putMemory_93 : decode cX7_putMemory 93 = .ok (.iconst 2, 1) := by decide +kernel
theorem dX7_putMemory_94 : decode cX7_putMemory 94 = .ok (.istore 7, 2) := by decide +kernel
theorem dX7_putMemory_96 : decode cX7_putMemory 96 = .ok (.iload_n 2, 1) := by decide +kernel
theorem dX7_putMemory_97 : decode cX7_putMemory 97 = .ok (.iconst (-1), 1) := by decide +kernel
theorem dX7_putMemory_98 : decode cX7_putMemory 98 = .ok (.if_icmp .eq 21, 3) := by decide +kernel
theorem dX7_putMemory_101 : decode cX7_putMemory 101 = .ok (.iload_n 3, 1) := by decide +kernel
theorem dX7_putMemory_102 : decode cX7_putMemory 102 = .ok (.ifCond .ge 17, 3) := by decide +kernel
theorem dX7_putMemory_105 : decode cX7_putMemory 105 = .ok (.iload_n 2, 1) := by decide +kernel
theorem dX7_putMemory_106 : decode cX7_putMemory 106 = .ok (.bipush 16, 2) := by decide +kernel
theorem dX7_putMemory_108 : decode cX7_putMemory 108 = .ok (.if_icmp .ge 15, 3) := by decide +kernel
theorem dX7_putMemory_111 : decode cX7_putMemory 111 = .ok (.iload_n 2, 1) := by decide +kernel
theorem dX7_putMemory_112 : decode cX7_putMemory 112 = .ok (.bipush 7, 2) := by decide +kernel
theorem dX7_putMemory_114 : decode cX7_putMemory 114 = .ok (.iand, 1) := by decide +kernel
theorem dX7_putMemory_115 : decode cX7_putMemory 115 = .ok (.iconst 4, 1) := by decide +kernel
theorem dX7_putMemory_116 : decode cX7_putMemory 116 = .ok (.if_icmp .ne 7, 3) := by decide +kernel
theorem dX7_putMemory_119 : decode cX7_putMemory 119 = .ok (.iconst 1, 1) := by decide +kernel
theorem dX7_putMemory_120 : decode cX7_putMemory 120 = .ok (.goto 4, 3) := by decide +kernel
theorem dX7_putMemory_123 : decode cX7_putMemory 123 = .ok (.iconst 0, 1) := by decide +kernel
theorem dX7_putMemory_124 : decode cX7_putMemory 124 = .ok (.istore 8, 2) := by decide +kernel
theorem dX7_putMemory_126 : decode cX7_putMemory 126 = .ok (.aload_n 0, 1) := by decide +kernel
theorem dX7_putMemory_127 : decode cX7_putMemory 127 = .ok (.bipush 64, 2) := by decide +kernel
theorem dX7_putMemory_129 : decode cX7_putMemory 129 = .ok (.iload 7, 2) := by decide +kernel
theorem dX7_putMemory_131 : decode cX7_putMemory 131 = .ok (.imul, 1) := by decide +kernel
theorem dX7_putMemory_132 : decode cX7_putMemory 132 = .ok (.bipush 8, 2) := by decide +kernel
theorem dX7_putMemory_134 : decode cX7_putMemory 134 = .ok (.iload_n 1, 1) := by decide +kernel
theorem dX7_putMemory_135 : decode cX7_putMemory 135 = .ok (.imul, 1) := by decide +kernel
theorem dX7_putMemory_136 : decode cX7_putMemory 136 = .ok (.iadd, 1) := by decide +kernel
theorem dX7_putMemory_137 : decode cX7_putMemory 137 = .ok (.iload 8, 2) := by decide +kernel
theorem dX7_putMemory_139 : decode cX7_putMemory 139 = .ok (.ifCond .eq 7, 3) := by decide +kernel
theorem dX7_putMemory_142 : decode cX7_putMemory 142 = .ok (.iconst 4, 1) := by decide +kernel
theorem dX7_putMemory_143 : decode cX7_putMemory 143 = .ok (.goto 17, 3) := by decide +kernel
theorem dX7_putMemory_146 : decode cX7_putMemory 146 = .ok (.iload_n 2, 1) := by decide +kernel
theorem dX7_putMemory_147 : decode cX7_putMemory 147 = .ok (.bipush 16, 2) := by decide +kernel
theorem dX7_putMemory_149 : decode cX7_putMemory 149 = .ok (.if_icmp .ne 7, 3) := by decide +kernel
theorem dX7_putMemory_152 : decode cX7_putMemory 152 = .ok (.iconst 5, 1) := by decide +kernel
theorem dX7_putMemory_153 : decode cX7_putMemory 153 = .ok (.goto 7, 3) := by decide +kernel
theorem dX7_putMemory_156 : decode cX7_putMemory 156 = .ok (.iload_n 2, 1) := by decide +kernel
theorem dX7_putMemory_157 : decode cX7_putMemory 157 = .ok (.bipush 7, 2) := by decide +kernel
theorem dX7_putMemory_159 : decode cX7_putMemory 159 = .ok (.iand, 1) := by decide +kernel
theorem dX7_putMemory_160 : decode cX7_putMemory 160 = .ok (.iadd, 1) := by decide +kernel
theorem dX7_putMemory_161 : decode cX7_putMemory 161 = .ok (.invokevirtual 82, 3) := by decide +kernel
theorem dX7_putMemory_164 : decode cX7_putMemory 164 = .ok (.iload 8, 2) := by decide +kernel
theorem dX7_putMemory_166 : decode cX7_putMemory 166 = .ok (.ifCond .eq 72, 3) := by decide +kernel
theorem dX7_putMemory_169 : decode cX7_putMemory 169 = .ok (.aload_n 0, 1) := by decide +kernel
theorem dX7_putMemory_170 : decode cX7_putMemory 170 = .ok (.bipush 64, 2) := by decide +kernel
theorem dX7_putMemory_172 : decode cX7_putMemory 172 = .ok (.iload 4, 2) := by decide +kernel
theorem dX7_putMemory_174 : decode cX7_putMemory 174 = .ok (.bipush 8, 2) := by decide +kernel
theorem dX7_putMemory_176 : decode cX7_putMemory 176 = .ok (.if_icmp .ne 7, 3) := by decide +kernel
theorem dX7_putMemory_179 : decode cX7_putMemory 179 = .ok (.iconst 3, 1) := by decide +kernel
theorem dX7_putMemory_180 : decode cX7_putMemory 180 = .ok (.goto 24, 3) := by decide +kernel
theorem dX7_putMemory_183 : decode cX7_putMemory 183 = .ok (.iload 4, 2) := by decide +kernel
theorem dX7_putMemory_185 : decode cX7_putMemory 185 = .ok (.iconst 4, 1) := by decide +kernel
theorem dX7_putMemory_186 : decode cX7_putMemory 186 = .ok (.if_icmp .ne 7, 3) := by decide +kernel
theorem dX7_putMemory_189 : decode cX7_putMemory 189 = .ok (.iconst 2, 1) := by decide +kernel
theorem dX7_putMemory_190 : decode cX7_putMemory 190 = .ok (.goto 14, 3) := by decide +kernel
theorem dX7_putMemory_193 : decode cX7_putMemory 193 = .ok (.iload 4, 2) := by decide +kernel
theorem dX7_putMemory_195 : decode cX7_putMemory 195 = .ok (.iconst 2, 1) := by decide +kernel
theorem dX7_putMemory_196 : decode cX7_putMemory 196 = .ok (.if_icmp .ne 7, 3) := by decide +kernel
theorem dX7_putMemory_199 : decode cX7_putMemory 199 = .ok (.iconst 1, 1) := by decide +kernel
theorem dX7_putMemory_200 : decode cX7_putMemory 200 = .ok (.goto 4, 3) := by decide +kernel
theorem dX7_putMemory_203 : decode cX7_putMemory 203 = .ok (.iconst 0, 1) := by decide +kernel
theorem dX7_putMemory_204 : decode cX7_putMemory 204 = .ok (.imul, 1) := by decide +kernel
theorem dX7_putMemory_205 : decode cX7_putMemory 205 = .ok (.bipush 8, 2) := by decide +kernel
theorem dX7_putMemory_207 : decode cX7_putMemory 207 = .ok (.iload_n 3, 1) := by decide +kernel
theorem dX7_putMemory_208 : decode cX7_putMemory 208 = .ok (.ifCond .ge 7, 3) := by decide +kernel
theorem dX7_putMemory_211 : decode cX7_putMemory 211 = .ok (.iconst 4, 1) := by decide +kernel
theorem dX7_putMemory_212 : decode cX7_putMemory 212 = .ok (.goto 7, 3) := by decide +kernel
theorem dX7_putMemory_215 : decode cX7_putMemory 215 = .ok (.iload_n 3, 1) := by decide +kernel
theorem dX7_putMemory_216 : decode cX7_putMemory 216 = .ok (.bipush 7, 2) := by decide +kernel
theorem dX7_putMemory_218 : decode cX7_putMemory 218 = .ok (.iand, 1) := by decide +kernel
theorem dX7_putMemory_219 : decode cX7_putMemory 219 = .ok (.imul, 1) := by decide +kernel
theorem dX7_putMemory_220 : decode cX7_putMemory 220 = .ok (.iadd, 1) := by decide +kernel
theorem dX7_putMemory_221 : decode cX7_putMemory 221 = .ok (.iload_n 2, 1) := by decide +kernel
theorem dX7_putMemory_222 : decode cX7_putMemory 222 = .ok (.iconst (-1), 1) := by decide +kernel
theorem dX7_putMemory_223 : decode cX7_putMemory 223 = .ok (.if_icmp .ne 7, 3) := by decide +kernel
theorem dX7_putMemory_226 : decode cX7_putMemory 226 = .ok (.iconst 5, 1) := by decide +kernel
theorem dX7_putMemory_227 : decode cX7_putMemory 227 = .ok (.goto 7, 3) := by decide +kernel
theorem dX7_putMemory_230 : decode cX7_putMemory 230 = .ok (.iload_n 2, 1) := by decide +kernel
theorem dX7_putMemory_231 : decode cX7_putMemory 231 = .ok (.bipush 7, 2) := by decide +kernel
theorem dX7_putMemory_233 : decode cX7_putMemory 233 = .ok (.iand, 1) := by decide +kernel
theorem dX7_putMemory_234 : decode cX7_putMemory 234 = .ok (.iadd, 1) := by decide +kernel
theorem dX7_putMemory_235 : decode cX7_putMemory 235 = .ok (.invokevirtual 82, 3) := by decide +kernel
theorem dX7_putMemory_238 : decode cX7_putMemory 238 = .ok (.aload_n 0, 1) := by decide +kernel
theorem dX7_putMemory_239 : decode cX7_putMemory 239 = .ok (.iload 5, 2) := by decide +kernel
theorem dX7_putMemory_241 : decode cX7_putMemory 241 = .ok (.i2l, 1) := by decide +kernel
theorem dX7_putMemory_242 : decode cX7_putMemory 242 = .ok (.iload 6, 2) := by decide +kernel
theorem dX7_putMemory_244 : decode cX7_putMemory 244 = .ok (.ifCond .ne 9, 3) := by decide +kernel
theorem dX7_putMemory_247 : decode cX7_putMemory 247 = .ok (.iload 7, 2) := by decide +kernel
theorem dX7_putMemory_249 : decode cX7_putMemory 249 = .ok (.iconst 2, 1) := by decide +kernel
theorem dX7_putMemory_250 : decode cX7_putMemory 250 = .ok (.if_icmp .ne 7, 3) := by decide +kernel
theorem dX7_putMemory_253 : decode cX7_putMemory 253 = .ok (.iconst 4, 1) := by decide +kernel
theorem dX7_putMemory_254 : decode cX7_putMemory 254 = .ok (.goto 5, 3) := by decide +kernel
theorem dX7_putMemory_257 : decode cX7_putMemory 257 = .ok (.iload 7, 2) := by decide +kernel
theorem dX7_putMemory_259 : decode cX7_putMemory 259 = .ok (.invokevirtual 86, 3) := by decide +kernel
theorem dX7_putMemory_262 : decode cX7_putMemory 262 = .ok (.return_, 1) := by decide +kernel
set_option maxRecDepth 20000 in
theorem ggX7_tries_X7_allows : GoodIn wsX7_tries wsX7_allows := goodIn_r _ [14] rfl (by decide +kernel)
set_option maxRecDepth 20000 in
theorem gX7_tries_X7_allows : GoodIn wsX7_tries (va_wsS RX7 90 yX7_allows wsX7_allows) := goodIn_app (goodIn_of _ (by decide +kernel)) ggX7_tries_X7_allows
set_option maxRecDepth 20000 in
theorem ggX7_tries_X7_conditional : GoodIn wsX7_tries wsX7_conditional := goodIn_r _ [17] rfl (by decide +kernel)
set_option maxRecDepth 20000 in
theorem gX7_tries_X7_conditional : GoodIn wsX7_tries (va_wsS RX7 94 yX7_conditional wsX7_conditional) := goodIn_app (goodIn_of _ (by decide +kernel)) ggX7_tries_X7_conditional
set_option maxRecDepth 20000 in
theorem ggX7_tries_X7_suits : GoodIn wsX7_tries wsX7_suits := goodIn_r _ [21, 2, 10, 1, 9, 22, 23, 13, 24, 25, 26, 27, 28, 29, 30, 31, 57, 58, 59, 60, 61, 62, 63, 64, 65, 66, 67, 68, 69, 70, 71, 72, 73, 74, 75, 76, 77, 78, 79] rfl (by decide +kernel)
set_option maxRecDepth 20000 in
theorem gX7_tries_X7_suits : GoodIn wsX7_tries (wsV RX7 98 RX7 yX7_suits wsX7_suits) := goodIn_app (goodIn_of _ (by decide +kernel)) ggX7_tries_X7_suits
set_option maxRecDepth 20000 in
theorem ggX7_tries_X7_place : GoodIn wsX7_tries wsX7_place := goodIn_r _ [24] rfl (by decide +kernel)
set_option maxRecDepth 20000 in
theorem gX7_tries_X7_place : GoodIn wsX7_tries (va_wsS RX7 70 yX7_place wsX7_place) := goodIn_app (goodIn_of _ (by decide +kernel)) ggX7_tries_X7_place
set_option maxRecDepth 20000 in
theorem ggX7_tries_X7_width : GoodIn wsX7_tries wsX7_width := goodIn_r _ [35, 3, 57, 58, 59, 60, 61, 62, 63, 64, 65, 66, 67, 68, 69, 70, 71, 72, 73, 74, 75, 76, 77, 78, 79] rfl (by decide +kernel)
set_option maxRecDepth 20000 in
theorem gX7_tries_X7_width : GoodIn wsX7_tries (wsV RX7 102 RX7 yX7_width wsX7_width) := goodIn_app (goodIn_of _ (by decide +kernel)) ggX7_tries_X7_width
set_option maxRecDepth 20000 in
theorem ggX7_tries_X7_isMemory : GoodIn wsX7_tries wsX7_isMemory := goodIn_r _ [39, 1, 57, 58, 59, 60, 61, 62, 63, 64, 65, 66, 67, 68, 69, 70, 71, 72, 73, 74, 75, 76, 77, 78, 79] rfl (by decide +kernel)
set_option maxRecDepth 20000 in
theorem gX7_tries_X7_isMemory : GoodIn wsX7_tries (wsV RX7 106 RX7 yX7_isMemory wsX7_isMemory) := goodIn_app (goodIn_of _ (by decide +kernel)) ggX7_tries_X7_isMemory
set_option maxRecDepth 20000 in
theorem ggX7_tries_X7_put : GoodIn wsX7_tries wsX7_put := goodIn_r _ [43, 44, 6, 57, 58, 59, 60, 61, 62, 63, 64, 65, 66, 67, 68, 69, 70, 71, 72, 73, 74, 75, 76, 77, 78, 79] rfl (by decide +kernel)
set_option maxRecDepth 20000 in
theorem gX7_tries_X7_put : GoodIn wsX7_tries (wsV RX7 82 RX7 yX7_put wsX7_put) := goodIn_app (goodIn_of _ (by decide +kernel)) ggX7_tries_X7_put
set_option maxRecDepth 20000 in
theorem ggX7_tries_X7_hasForm : GoodIn wsX7_tries wsX7_hasForm := goodIn_r _ [47] rfl (by decide +kernel)
set_option maxRecDepth 20000 in
theorem gX7_tries_X7_hasForm : GoodIn wsX7_tries (va_wsS RX7 110 yX7_hasForm wsX7_hasForm) := goodIn_app (goodIn_of _ (by decide +kernel)) ggX7_tries_X7_hasForm
set_option maxRecDepth 20000 in
theorem ggX7_tries_X7_putMemory : GoodIn wsX7_tries wsX7_putMemory := goodIn_r _ [51, 1, 40, 41, 42, 13, 43, 44, 6, 52, 53, 54, 55, 56, 57, 58, 59, 60, 61, 62, 63, 64, 65, 66, 67, 68, 69, 70, 71, 72, 73, 74, 75, 76, 77, 78, 79] rfl (by decide +kernel)
set_option maxRecDepth 20000 in
theorem gX7_tries_X7_putMemory : GoodIn wsX7_tries (wsV RX7 113 RX7 yX7_putMemory wsX7_putMemory) := goodIn_app (goodIn_of _ (by decide +kernel)) ggX7_tries_X7_putMemory
set_option maxRecDepth 20000 in
theorem ggX7_tries_X7_room : GoodIn wsX7_tries wsX7_room := goodIn_r _ [31] rfl (by decide +kernel)
set_option maxRecDepth 20000 in
theorem gX7_tries_X7_room : GoodIn wsX7_tries (va_wsS RX7 64 yX7_room wsX7_room) := goodIn_app (goodIn_of _ (by decide +kernel)) ggX7_tries_X7_room
set_option maxRecDepth 20000 in
theorem ggX7_tries_X7_putAll : GoodIn wsX7_tries wsX7_putAll := goodIn_r _ [55, 56, 40, 41, 42, 13, 43, 44, 6, 57, 58, 59, 60, 61, 62, 63, 64, 65, 66, 67, 68, 69, 70, 71, 72, 73, 74, 75, 76, 77, 78, 79] rfl (by decide +kernel)
set_option maxRecDepth 20000 in
theorem gX7_tries_X7_putAll : GoodIn wsX7_tries (wsV RX7 86 RX7 yX7_putAll wsX7_putAll) := goodIn_app (goodIn_of _ (by decide +kernel)) ggX7_tries_X7_putAll
theorem dX7_tries_0 : decode cX7_tries 0 = .ok (.aload_n 0, 1) := by decide +kernel
theorem dX7_tries_1 : decode cX7_tries 1 = .ok (.getfield 31, 3) := by decide +kernel
theorem dX7_tries_4 : decode cX7_tries 4 = .ok (.iconst 1, 1) := by decide +kernel
theorem dX7_tries_5 : decode cX7_tries 5 = .ok (.iaload, 1) := by decide +kernel
theorem dX7_tries_6 : decode cX7_tries 6 = .ok (.istore_n 2, 1) := by decide +kernel
theorem dX7_tries_7 : decode cX7_tries 7 = .ok (.aload_n 0, 1) := by decide +kernel
theorem dX7_tries_8 : decode cX7_tries 8 = .ok (.getfield 16, 3) := by decide +kernel
theorem dX7_tries_11 : decode cX7_tries 11 = .ok (.iload_n 1, 1) := by decide +kernel
theorem dX7_tries_12 : decode cX7_tries 12 = .ok (.iaload, 1) := by decide +kernel
theorem dX7_tries_13 : decode cX7_tries 13 = .ok (.istore_n 3, 1) := by decide +kernel
theorem dX7_tries_14 : decode cX7_tries 14 = .ok (.aload_n 0, 1) := by decide +kernel
theorem dX7_tries_15 : decode cX7_tries 15 = .ok (.getfield 7, 3) := by decide +kernel
theorem dX7_tries_18 : decode cX7_tries 18 = .ok (.iload_n 1, 1) := by decide +kernel
theorem dX7_tries_19 : decode cX7_tries 19 = .ok (.iaload, 1) := by decide +kernel
theorem dX7_tries_20 : decode cX7_tries 20 = .ok (.aload_n 0, 1) := by decide +kernel
theorem dX7_tries_21 : decode cX7_tries 21 = .ok (.getfield 31, 3) := by decide +kernel
theorem dX7_tries_24 : decode cX7_tries 24 = .ok (.iconst 0, 1) := by decide +kernel
theorem dX7_tries_25 : decode cX7_tries 25 = .ok (.iaload, 1) := by decide +kernel
theorem dX7_tries_26 : decode cX7_tries 26 = .ok (.if_icmp .ne 64, 3) := by decide +kernel
theorem dX7_tries_29 : decode cX7_tries 29 = .ok (.aload_n 0, 1) := by decide +kernel
theorem dX7_tries_30 : decode cX7_tries 30 = .ok (.getfield 13, 3) := by decide +kernel
theorem dX7_tries_33 : decode cX7_tries 33 = .ok (.iload_n 1, 1) := by decide +kernel
theorem dX7_tries_34 : decode cX7_tries 34 = .ok (.iaload, 1) := by decide +kernel
theorem dX7_tries_35 : decode cX7_tries 35 = .ok (.iload_n 2, 1) := by decide +kernel
theorem dX7_tries_36 : decode cX7_tries 36 = .ok (.invokestatic 90, 3) := by decide +kernel
theorem dX7_tries_39 : decode cX7_tries 39 = .ok (.ifCond .eq 51, 3) := by decide +kernel
theorem dX7_tries_42 : decode cX7_tries 42 = .ok (.aload_n 0, 1) := by decide +kernel
