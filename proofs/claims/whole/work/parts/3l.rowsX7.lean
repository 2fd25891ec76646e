theorem dX7_takeForm_96 : decode cX7_takeForm 96 = .ok (.aload_n 0, 1) := by decide +kernel
theorem dX7_takeForm_97 : decode cX7_takeForm 97 = .ok (.invokevirtual 132, 3) := by decide +kernel
theorem dX7_takeForm_100 : decode cX7_takeForm 100 = .ok (.goto 4, 3) := by decide +kernel
theorem dX7_takeForm_103 : decode cX7_takeForm 103 = .ok (.iconst (-1), 1) := by decide +kernel
theorem dX7_takeForm_104 : decode cX7_takeForm 104 = .ok (.istore 7, 2) := by decide +kernel
theorem dX7_takeForm_106 : decode cX7_takeForm 106 = .ok (.iload 7, 2) := by decide +kernel
theorem dX7_takeForm_108 : decode cX7_takeForm 108 = .ok (.ifCond .ge 8, 3) := by decide +kernel
theorem dX7_takeForm_111 : decode cX7_takeForm 111 = .ok (.iload 5, 2) := by decide +kernel
theorem dX7_takeForm_113 : decode cX7_takeForm 113 = .ok (.goto 8, 3) := by decide +kernel
theorem dX7_takeForm_116 : decode cX7_takeForm 116 = .ok (.iload 7, 2) := by decide +kernel
theorem dX7_takeForm_118 : decode cX7_takeForm 118 = .ok (.bipush 7, 2) := by decide +kernel
theorem dX7_takeForm_120 : decode cX7_takeForm 120 = .ok (.iand, 1) := by decide +kernel
theorem dX7_takeForm_121 : decode cX7_takeForm 121 = .ok (.istore 8, 2) := by decide +kernel
theorem dX7_takeForm_123 : decode cX7_takeForm 123 = .ok (.iload 4, 2) := by decide +kernel
theorem dX7_takeForm_125 : decode cX7_takeForm 125 = .ok (.ifCond .ne 13, 3) := by decide +kernel
theorem dX7_takeForm_128 : decode cX7_takeForm 128 = .ok (.iload 8, 2) := by decide +kernel
theorem dX7_takeForm_130 : decode cX7_takeForm 130 = .ok (.iconst 5, 1) := by decide +kernel
theorem dX7_takeForm_131 : decode cX7_takeForm 131 = .ok (.if_icmp .ne 7, 3) := by decide +kernel
theorem dX7_takeForm_134 : decode cX7_takeForm 134 = .ok (.iconst 1, 1) := by decide +kernel
theorem dX7_takeForm_135 : decode cX7_takeForm 135 = .ok (.goto 4, 3) := by decide +kernel
theorem dX7_takeForm_138 : decode cX7_takeForm 138 = .ok (.iconst 0, 1) := by decide +kernel
theorem dX7_takeForm_139 : decode cX7_takeForm 139 = .ok (.istore 9, 2) := by decide +kernel
theorem dX7_takeForm_141 : decode cX7_takeForm 141 = .ok (.aload_n 0, 1) := by decide +kernel
theorem dX7_takeForm_142 : decode cX7_takeForm 142 = .ok (.getfield 34, 3) := by decide +kernel
theorem dX7_takeForm_145 : decode cX7_takeForm 145 = .ok (.bipush 9, 2) := by decide +kernel
theorem dX7_takeForm_147 : decode cX7_takeForm 147 = .ok (.iload 9, 2) := by decide +kernel
theorem dX7_takeForm_149 : decode cX7_takeForm 149 = .ok (.ifCond .eq 17, 3) := by decide +kernel
theorem dX7_takeForm_152 : decode cX7_takeForm 152 = .ok (.iload 7, 2) := by decide +kernel
theorem dX7_takeForm_154 : decode cX7_takeForm 154 = .ok (.ifCond .ge 8, 3) := by decide +kernel
theorem dX7_takeForm_157 : decode cX7_takeForm 157 = .ok (.bipush 16, 2) := by decide +kernel
theorem dX7_takeForm_159 : decode cX7_takeForm 159 = .ok (.goto 12, 3) := by decide +kernel
theorem dX7_takeForm_162 : decode cX7_takeForm 162 = .ok (.iconst (-1), 1) := by decide +kernel
theorem dX7_takeForm_163 : decode cX7_takeForm 163 = .ok (.goto 8, 3) := by decide +kernel
theorem dX7_takeForm_166 : decode cX7_takeForm 166 = .ok (.iload 6, 2) := by decide +kernel
theorem dX7_takeForm_168 : decode cX7_takeForm 168 = .ok (.iload 8, 2) := by decide +kernel
theorem dX7_takeForm_170 : decode cX7_takeForm 170 = .ok (.iadd, 1) := by decide +kernel
theorem dX7_takeForm_171 : decode cX7_takeForm 171 = .ok (.iastore, 1) := by decide +kernel
theorem dX7_takeForm_172 : decode cX7_takeForm 172 = .ok (.iload 7, 2) := by decide +kernel
theorem dX7_takeForm_174 : decode cX7_takeForm 174 = .ok (.ifCond .ge 7, 3) := by decide +kernel
theorem dX7_takeForm_177 : decode cX7_takeForm 177 = .ok (.iconst 4, 1) := by decide +kernel
theorem dX7_takeForm_178 : decode cX7_takeForm 178 = .ok (.goto 22, 3) := by decide +kernel
theorem dX7_takeForm_181 : decode cX7_takeForm 181 = .ok (.aload_n 0, 1) := by decide +kernel
theorem dX7_takeForm_182 : decode cX7_takeForm 182 = .ok (.getfield 136, 3) := by decide +kernel
theorem dX7_takeForm_185 : decode cX7_takeForm 185 = .ok (.iconst 1, 1) := by decide +kernel
theorem dX7_takeForm_186 : decode cX7_takeForm 186 = .ok (.ishr, 1) := by decide +kernel
theorem dX7_takeForm_187 : decode cX7_takeForm 187 = .ok (.iconst 1, 1) := by decide +kernel
theorem dX7_takeForm_188 : decode cX7_takeForm 188 = .ok (.iand, 1) := by decide +kernel
theorem dX7_takeForm_189 : decode cX7_takeForm 189 = .ok (.bipush 8, 2) := by decide +kernel
theorem dX7_takeForm_191 : decode cX7_takeForm 191 = .ok (.imul, 1) := by decide +kernel
theorem dX7_takeForm_192 : decode cX7_takeForm 192 = .ok (.iload 7, 2) := by decide +kernel
theorem dX7_takeForm_194 : decode cX7_takeForm 194 = .ok (.iconst 3, 1) := by decide +kernel
theorem dX7_takeForm_195 : decode cX7_takeForm 195 = .ok (.ishr, 1) := by decide +kernel
theorem dX7_takeForm_196 : decode cX7_takeForm 196 = .ok (.bipush 7, 2) := by decide +kernel
theorem dX7_takeForm_198 : decode cX7_takeForm 198 = .ok (.iand, 1) := by decide +kernel
theorem dX7_takeForm_199 : decode cX7_takeForm 199 = .ok (.iadd, 1) := by decide +kernel
theorem dX7_takeForm_200 : decode cX7_takeForm 200 = .ok (.istore 10, 2) := by decide +kernel
theorem dX7_takeForm_202 : decode cX7_takeForm 202 = .ok (.aload_n 0, 1) := by decide +kernel
theorem dX7_takeForm_203 : decode cX7_takeForm 203 = .ok (.getfield 34, 3) := by decide +kernel
theorem dX7_takeForm_206 : decode cX7_takeForm 206 = .ok (.bipush 10, 2) := by decide +kernel
theorem dX7_takeForm_208 : decode cX7_takeForm 208 = .ok (.iload 10, 2) := by decide +kernel
theorem dX7_takeForm_210 : decode cX7_takeForm 210 = .ok (.iconst 4, 1) := by decide +kernel
theorem dX7_takeForm_211 : decode cX7_takeForm 211 = .ok (.if_icmp .ne 7, 3) := by decide +kernel
theorem dX7_takeForm_214 : decode cX7_takeForm 214 = .ok (.iconst (-1), 1) := by decide +kernel
theorem dX7_takeForm_215 : decode cX7_takeForm 215 = .ok (.goto 5, 3) := by decide +kernel
theorem dX7_takeForm_218 : decode cX7_takeForm 218 = .ok (.iload 10, 2) := by decide +kernel
theorem dX7_takeForm_220 : decode cX7_takeForm 220 = .ok (.iastore, 1) := by decide +kernel
theorem dX7_takeForm_221 : decode cX7_takeForm 221 = .ok (.aload_n 0, 1) := by decide +kernel
theorem dX7_takeForm_222 : decode cX7_takeForm 222 = .ok (.getfield 34, 3) := by decide +kernel
theorem dX7_takeForm_225 : decode cX7_takeForm 225 = .ok (.bipush 11, 2) := by decide +kernel
theorem dX7_takeForm_227 : decode cX7_takeForm 227 = .ok (.iload 10, 2) := by decide +kernel
theorem dX7_takeForm_229 : decode cX7_takeForm 229 = .ok (.iconst 4, 1) := by decide +kernel
theorem dX7_takeForm_230 : decode cX7_takeForm 230 = .ok (.if_icmp .ne 7, 3) := by decide +kernel
theorem dX7_takeForm_233 : decode cX7_takeForm 233 = .ok (.iconst 1, 1) := by decide +kernel
theorem dX7_takeForm_234 : decode cX7_takeForm 234 = .ok (.goto 10, 3) := by decide +kernel
theorem dX7_takeForm_237 : decode cX7_takeForm 237 = .ok (.iconst 1, 1) := by decide +kernel
theorem dX7_takeForm_238 : decode cX7_takeForm 238 = .ok (.iload 7, 2) := by decide +kernel
theorem dX7_takeForm_240 : decode cX7_takeForm 240 = .ok (.bipush 6, 2) := by decide +kernel
theorem dX7_takeForm_242 : decode cX7_takeForm 242 = .ok (.ishr, 1) := by decide +kernel
theorem dX7_takeForm_243 : decode cX7_takeForm 243 = .ok (.ishl, 1) := by decide +kernel
theorem dX7_takeForm_244 : decode cX7_takeForm 244 = .ok (.iastore, 1) := by decide +kernel
theorem dX7_takeForm_245 : decode cX7_takeForm 245 = .ok (.aload_n 0, 1) := by decide +kernel
theorem dX7_takeForm_246 : decode cX7_takeForm 246 = .ok (.getfield 34, 3) := by decide +kernel
theorem dX7_takeForm_249 : decode cX7_takeForm 249 = .ok (.bipush 12, 2) := by decide +kernel
theorem dX7_takeForm_251 : decode cX7_takeForm 251 = .ok (.aload_n 0, 1) := by decide +kernel
theorem dX7_takeForm_252 : decode cX7_takeForm 252 = .ok (.iload 9, 2) := by decide +kernel
theorem dX7_takeForm_254 : decode cX7_takeForm 254 = .ok (.ifCond .ne 9, 3) := by decide +kernel
theorem dX7_takeForm_257 : decode cX7_takeForm 257 = .ok (.iload 4, 2) := by decide +kernel
theorem dX7_takeForm_259 : decode cX7_takeForm 259 = .ok (.iconst 2, 1) := by decide +kernel
theorem dX7_takeForm_260 : decode cX7_takeForm 260 = .ok (.if_icmp .ne 7, 3) := by decide +kernel
theorem dX7_takeForm_263 : decode cX7_takeForm 263 = .ok (.iconst 4, 1) := by decide +kernel
theorem dX7_takeForm_264 : decode cX7_takeForm 264 = .ok (.goto 5, 3) := by decide +kernel
theorem dX7_takeForm_267 : decode cX7_takeForm 267 = .ok (.iload 4, 2) := by decide +kernel
theorem dX7_takeForm_269 : decode cX7_takeForm 269 = .ok (.invokevirtual 142, 3) := by decide +kernel
theorem dX7_takeForm_272 : decode cX7_takeForm 272 = .ok (.l2i, 1) := by decide +kernel
theorem dX7_takeForm_273 : decode cX7_takeForm 273 = .ok (.iastore, 1) := by decide +kernel
theorem dX7_takeForm_274 : decode cX7_takeForm 274 = .ok (.return_, 1) := by decide +kernel
set_option maxRecDepth 20000 in
theorem ggX7_fits_X7_next : GoodIn wsX7_fits wsX7_next := goodIn_r _ [20, 4, 3, 21, 22, 47, 48, 49, 50, 51, 52, 53, 54, 55, 56, 57, 58, 59, 60, 61, 62, 63, 64, 65, 66, 67, 68, 69] rfl (by decide +kernel)
set_option maxRecDepth 20000 in
theorem gX7_fits_X7_next : GoodIn wsX7_fits (wsV RX7 132 RX7 yX7_next wsX7_next) := goodIn_app (goodIn_of _ (by decide +kernel)) ggX7_fits_X7_next
set_option maxRecDepth 20000 in
theorem ggX7_fits_X7_conditional : GoodIn wsX7_fits wsX7_conditional := goodIn_r _ [25] rfl (by decide +kernel)
set_option maxRecDepth 20000 in
theorem gX7_fits_X7_conditional : GoodIn wsX7_fits (va_wsS RX7 94 yX7_conditional wsX7_conditional) := goodIn_app (goodIn_of _ (by decide +kernel)) ggX7_fits_X7_conditional
set_option maxRecDepth 20000 in
theorem ggX7_fits_X7_hasForm : GoodIn wsX7_fits wsX7_hasForm := goodIn_r _ [28] rfl (by decide +kernel)
set_option maxRecDepth 20000 in
theorem gX7_fits_X7_hasForm : GoodIn wsX7_fits (va_wsS RX7 110 yX7_hasForm wsX7_hasForm) := goodIn_app (goodIn_of _ (by decide +kernel)) ggX7_fits_X7_hasForm
set_option maxRecDepth 20000 in
theorem ggX7_fits_X7_place : GoodIn wsX7_fits wsX7_place := goodIn_r _ [31] rfl (by decide +kernel)
set_option maxRecDepth 20000 in
theorem gX7_fits_X7_place : GoodIn wsX7_fits (va_wsS RX7 70 yX7_place wsX7_place) := goodIn_app (goodIn_of _ (by decide +kernel)) ggX7_fits_X7_place
set_option maxRecDepth 20000 in
theorem ggX7_fits_X7_width : GoodIn wsX7_fits wsX7_width := goodIn_r _ [35, 9, 47, 48, 49, 50, 51, 52, 53, 54, 55, 56, 57, 58, 59, 60, 61, 62, 63, 64, 65, 66, 67, 68, 69] rfl (by decide +kernel)
set_option maxRecDepth 20000 in
theorem gX7_fits_X7_width : GoodIn wsX7_fits (wsV RX7 102 RX7 yX7_width wsX7_width) := goodIn_app (goodIn_of _ (by decide +kernel)) ggX7_fits_X7_width
set_option maxRecDepth 20000 in
theorem ggX7_fits_X7_takeForm : GoodIn wsX7_fits wsX7_takeForm := goodIn_r _ [39, 10, 1, 12, 4, 16, 17, 18, 19, 20, 3, 21, 22, 40, 41, 42, 43, 47, 48, 49, 50, 51, 52, 53, 54, 55, 56, 57, 58, 59, 60, 61, 62, 63, 64, 65, 66, 67, 68, 69] rfl (by decide +kernel)
set_option maxRecDepth 20000 in
theorem gX7_fits_X7_takeForm : GoodIn wsX7_fits (wsV RX7 149 RX7 yX7_takeForm wsX7_takeForm) := goodIn_app (goodIn_of _ (by decide +kernel)) ggX7_fits_X7_takeForm
set_option maxRecDepth 20000 in
theorem ggX7_fits_X7_room : GoodIn wsX7_fits wsX7_room := goodIn_r _ [46] rfl (by decide +kernel)
set_option maxRecDepth 20000 in
theorem gX7_fits_X7_room : GoodIn wsX7_fits (va_wsS RX7 64 yX7_room wsX7_room) := goodIn_app (goodIn_of _ (by decide +kernel)) ggX7_fits_X7_room
set_option maxRecDepth 20000 in
theorem ggX7_fits_X7_take : GoodIn wsX7_fits wsX7_take := goodIn_r _ [43, 16, 17, 18, 19, 20, 4, 3, 21, 22, 47, 48, 49, 50, 51, 52, 53, 54, 55, 56, 57, 58, 59, 60, 61, 62, 63, 64, 65, 66, 67, 68, 69] rfl (by decide +kernel)
set_option maxRecDepth 20000 in
theorem gX7_fits_X7_take : GoodIn wsX7_fits (wsV RX7 142 RX7 yX7_take wsX7_take) := goodIn_app (goodIn_of _ (by decide +kernel)) ggX7_fits_X7_take
theorem dX7_fits_0 : decode cX7_fits 0 = .ok (.iconst 0, 1) := by decide +kernel
theorem dX7_fits_1 : decode cX7_fits 1 = .ok (.istore 4, 2) := by decide +kernel
theorem dX7_fits_3 : decode cX7_fits 3 = .ok (.iload 4, 2) := by decide +kernel
theorem dX7_fits_5 : decode cX7_fits 5 = .ok (.bipush 13, 2) := by decide +kernel
theorem dX7_fits_7 : decode cX7_fits 7 = .ok (.if_icmp .ge 46, 3) := by decide +kernel
theorem dX7_fits_10 : decode cX7_fits 10 = .ok (.aload_n 0, 1) := by decide +kernel
theorem dX7_fits_11 : decode cX7_fits 11 = .ok (.getfield 34, 3) := by decide +kernel
theorem dX7_fits_14 : decode cX7_fits 14 = .ok (.iload 4, 2) := by decide +kernel
theorem dX7_fits_16 : decode cX7_fits 16 = .ok (.iload 4, 2) := by decide +kernel
theorem dX7_fits_18 : decode cX7_fits 18 = .ok (.bipush 9, 2) := by decide +kernel
theorem dX7_fits_20 : decode cX7_fits 20 = .ok (.if_icmp .eq 10, 3) := by decide +kernel
theorem dX7_fits_23 : decode cX7_fits 23 = .ok (.iload 4, 2) := by decide +kernel
theorem dX7_fits_25 : decode cX7_fits 25 = .ok (.bipush 10, 2) := by decide +kernel
theorem dX7_fits_27 : decode cX7_fits 27 = .ok (.if_icmp .ne 7, 3) := by decide +kernel
theorem dX7_fits_30 : decode cX7_fits 30 = .ok (.iconst (-1), 1) := by decide +kernel
theorem dX7_fits_31 : decode cX7_fits 31 = .ok (.goto 15, 3) := by decide +kernel
theorem dX7_fits_34 : decode cX7_fits 34 = .ok (.iload 4, 2) := by decide +kernel
theorem dX7_fits_36 : decode cX7_fits 36 = .ok (.bipush 11, 2) := by decide +kernel
theorem dX7_fits_38 : decode cX7_fits 38 = .ok (.if_icmp .ne 7, 3) := by decide +kernel
theorem dX7_fits_41 : decode cX7_fits 41 = .ok (.iconst 1, 1) := by decide +kernel
theorem dX7_fits_42 : decode cX7_fits 42 = .ok (.goto 4, 3) := by decide +kernel
theorem dX7_fits_45 : decode cX7_fits 45 = .ok (.iconst 0, 1) := by decide +kernel
theorem dX7_fits_46 : decode cX7_fits 46 = .ok (.iastore, 1) := by decide +kernel
theorem dX7_fits_47 : decode cX7_fits 47 = .ok (.iinc 4 1, 3) := by decide +kernel
theorem dX7_fits_50 : decode cX7_fits 50 = .ok (.goto (-47), 3) := by decide +kernel
theorem dX7_fits_53 : decode cX7_fits 53 = .ok (.aload_n 0, 1) := by decide +kernel
theorem dX7_fits_54 : decode cX7_fits 54 = .ok (.lconst 0, 1) := by decide +kernel
theorem dX7_fits_55 : decode cX7_fits 55 = .ok (.putfield 146, 3) := by decide +kernel
theorem dX7_fits_58 : decode cX7_fits 58 = .ok (.aload_n 0, 1) := by decide +kernel
theorem dX7_fits_59 : decode cX7_fits 59 = .ok (.iload_n 2, 1) := by decide +kernel
theorem dX7_fits_60 : decode cX7_fits 60 = .ok (.putfield 129, 3) := by decide +kernel
theorem dX7_fits_63 : decode cX7_fits 63 = .ok (.aload_n 0, 1) := by decide +kernel
theorem dX7_fits_64 : decode cX7_fits 64 = .ok (.iconst 0, 1) := by decide +kernel
theorem dX7_fits_65 : decode cX7_fits 65 = .ok (.putfield 125, 3) := by decide +kernel
theorem dX7_fits_68 : decode cX7_fits 68 = .ok (.iload_n 3, 1) := by decide +kernel
theorem dX7_fits_69 : decode cX7_fits 69 = .ok (.aload_n 0, 1) := by decide +kernel
theorem dX7_fits_70 : decode cX7_fits 70 = .ok (.getfield 19, 3) := by decide +kernel
theorem dX7_fits_73 : decode cX7_fits 73 = .ok (.iload_n 1, 1) := by decide +kernel
theorem dX7_fits_74 : decode cX7_fits 74 = .ok (.iaload, 1) := by decide +kernel
theorem dX7_fits_75 : decode cX7_fits 75 = .ok (.sipush 243, 3) := by decide +kernel
theorem dX7_fits_78 : decode cX7_fits 78 = .ok (.if_icmp .ne 7, 3) := by decide +kernel
theorem dX7_fits_81 : decode cX7_fits 81 = .ok (.iconst 1, 1) := by decide +kernel
theorem dX7_fits_82 : decode cX7_fits 82 = .ok (.goto 4, 3) := by decide +kernel
theorem dX7_fits_85 : decode cX7_fits 85 = .ok (.iconst 0, 1) := by decide +kernel
theorem dX7_fits_86 : decode cX7_fits 86 = .ok (.if_icmp .ne 23, 3) := by decide +kernel
theorem dX7_fits_89 : decode cX7_fits 89 = .ok (.aload_n 0, 1) := by decide +kernel
theorem dX7_fits_90 : decode cX7_fits 90 = .ok (.getfield 19, 3) := by decide +kernel
theorem dX7_fits_93 : decode cX7_fits 93 = .ok (.iload_n 1, 1) := by decide +kernel
theorem dX7_fits_94 : decode cX7_fits 94 = .ok (.iaload, 1) := by decide +kernel
theorem dX7_fits_95 : decode cX7_fits 95 = .ok (.bipush 15, 2) := by decide +kernel
theorem dX7_fits_97 : decode cX7_fits 97 = .ok (.if_icmp .ne 14, 3) := by decide +kernel
theorem dX7_fits_100 : decode cX7_fits 100 = .ok (.aload_n 0, 1) := by decide +kernel
theorem dX7_fits_101 : decode cX7_fits 101 = .ok (.invokevirtual 132, 3) := by decide +kernel
theorem dX7_fits_104 : decode cX7_fits 104 = .ok (.bipush 15, 2) := by decide +kernel
theorem dX7_fits_106 : decode cX7_fits 106 = .ok (.if_icmp .eq 5, 3) := by decide +kernel
theorem dX7_fits_109 : decode cX7_fits 109 = .ok (.iconst 0, 1) := by decide +kernel
theorem dX7_fits_110 : decode cX7_fits 110 = .ok (.ireturn, 1) := by decide +kernel
theorem dX7_fits_111 : decode cX7_fits 111 = .ok (.aload_n 0, 1) := by decide +kernel
theorem dX7_fits_112 : decode cX7_fits 112 = .ok (.invokevirtual 132, 3) := by decide +kernel
theorem dX7_fits_115 : decode cX7_fits 115 = .ok (.istore 4, 2) := by decide +kernel
theorem dX7_fits_117 : decode cX7_fits 117 = .ok (.aload_n 0, 1) := by decide +kernel
theorem dX7_fits_118 : decode cX7_fits 118 = .ok (.getfield 16, 3) := by decide +kernel
theorem dX7_fits_121 : decode cX7_fits 121 = .ok (.iload_n 1, 1) := by decide +kernel
theorem dX7_fits_122 : decode cX7_fits 122 = .ok (.iaload, 1) := by decide +kernel
theorem dX7_fits_123 : decode cX7_fits 123 = .ok (.istore 5, 2) := by decide +kernel
theorem dX7_fits_125 : decode cX7_fits 125 = .ok (.iload 4, 2) := by decide +kernel
theorem dX7_fits_127 : decode cX7_fits 127 = .ok (.aload_n 0, 1) := by decide +kernel
theorem dX7_fits_128 : decode cX7_fits 128 = .ok (.getfield 22, 3) := by decide +kernel
theorem dX7_fits_131 : decode cX7_fits 131 = .ok (.iload_n 1, 1) := by decide +kernel
theorem dX7_fits_132 : decode cX7_fits 132 = .ok (.iaload, 1) := by decide +kernel
theorem dX7_fits_133 : decode cX7_fits 133 = .ok (.isub, 1) := by decide +kernel
theorem dX7_fits_134 : decode cX7_fits 134 = .ok (.istore 6, 2) := by decide +kernel
theorem dX7_fits_136 : decode cX7_fits 136 = .ok (.iload 5, 2) := by decide +kernel
theorem dX7_fits_138 : decode cX7_fits 138 = .ok (.iconst 5, 1) := by decide +kernel
theorem dX7_fits_139 : decode cX7_fits 139 = .ok (.if_icmp .eq 10, 3) := by decide +kernel
theorem dX7_fits_142 : decode cX7_fits 142 = .ok (.iload 5, 2) := by decide +kernel
theorem dX7_fits_144 : decode cX7_fits 144 = .ok (.bipush 6, 2) := by decide +kernel
theorem dX7_fits_146 : decode cX7_fits 146 = .ok (.if_icmp .ne 7, 3) := by decide +kernel
theorem dX7_fits_149 : decode cX7_fits 149 = .ok (.iconst 1, 1) := by decide +kernel
theorem dX7_fits_150 : decode cX7_fits 150 = .ok (.goto 4, 3) := by decide +kernel
theorem dX7_fits_153 : decode cX7_fits 153 = .ok (.iconst 0, 1) := by decide +kernel
theorem dX7_fits_154 : decode cX7_fits 154 = .ok (.istore 7, 2) := by decide +kernel
theorem dX7_fits_156 : decode cX7_fits 156 = .ok (.aload_n 0, 1) := by decide +kernel
theorem dX7_fits_157 : decode cX7_fits 157 = .ok (.getfield 13, 3) := by decide +kernel
theorem dX7_fits_160 : decode cX7_fits 160 = .ok (.iload_n 1, 1) := by decide +kernel
theorem dX7_fits_161 : decode cX7_fits 161 = .ok (.iaload, 1) := by decide +kernel
theorem dX7_fits_162 : decode cX7_fits 162 = .ok (.ifCond .ne 7, 3) := by decide +kernel
theorem dX7_fits_165 : decode cX7_fits 165 = .ok (.iconst 1, 1) := by decide +kernel
