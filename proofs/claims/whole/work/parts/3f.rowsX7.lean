theorem dX7_holds_0 : decode cX7_holds 0 = .ok (.iload_n 0, 1) := by decide +kernel
theorem dX7_holds_1 : decode cX7_holds 1 = .ok (.iload_n 1, 1) := by decide +kernel
theorem dX7_holds_2 : decode cX7_holds 2 = .ok (.invokestatic 64, 3) := by decide +kernel
theorem dX7_holds_5 : decode cX7_holds 5 = .ok (.istore 4, 2) := by decide +kernel
theorem dX7_holds_7 : decode cX7_holds 7 = .ok (.iload_n 0, 1) := by decide +kernel
theorem dX7_holds_8 : decode cX7_holds 8 = .ok (.bipush 6, 2) := by decide +kernel
theorem dX7_holds_10 : decode cX7_holds 10 = .ok (.if_icmp .eq 8, 3) := by decide +kernel
theorem dX7_holds_13 : decode cX7_holds 13 = .ok (.iload_n 0, 1) := by decide +kernel
theorem dX7_holds_14 : decode cX7_holds 14 = .ok (.iconst 5, 1) := by decide +kernel
theorem dX7_holds_15 : decode cX7_holds 15 = .ok (.if_icmp .ne 27, 3) := by decide +kernel
theorem dX7_holds_18 : decode cX7_holds 18 = .ok (.lload_n 2, 1) := by decide +kernel
theorem dX7_holds_19 : decode cX7_holds 19 = .ok (.lconst 0, 1) := by decide +kernel
theorem dX7_holds_20 : decode cX7_holds 20 = .ok (.lcmp, 1) := by decide +kernel
theorem dX7_holds_21 : decode cX7_holds 21 = .ok (.ifCond .lt 19, 3) := by decide +kernel
theorem dX7_holds_24 : decode cX7_holds 24 = .ok (.lload_n 2, 1) := by decide +kernel
theorem dX7_holds_25 : decode cX7_holds 25 = .ok (.lconst 1, 1) := by decide +kernel
theorem dX7_holds_26 : decode cX7_holds 26 = .ok (.bipush 8, 2) := by decide +kernel
theorem dX7_holds_28 : decode cX7_holds 28 = .ok (.iload 4, 2) := by decide +kernel
theorem dX7_holds_30 : decode cX7_holds 30 = .ok (.imul, 1) := by decide +kernel
theorem dX7_holds_31 : decode cX7_holds 31 = .ok (.lshl, 1) := by decide +kernel
theorem dX7_holds_32 : decode cX7_holds 32 = .ok (.lcmp, 1) := by decide +kernel
theorem dX7_holds_33 : decode cX7_holds 33 = .ok (.ifCond .ge 7, 3) := by decide +kernel
theorem dX7_holds_36 : decode cX7_holds 36 = .ok (.iconst 1, 1) := by decide +kernel
theorem dX7_holds_37 : decode cX7_holds 37 = .ok (.goto 4, 3) := by decide +kernel
theorem dX7_holds_40 : decode cX7_holds 40 = .ok (.iconst 0, 1) := by decide +kernel
theorem dX7_holds_41 : decode cX7_holds 41 = .ok (.ireturn, 1) := by decide +kernel
theorem dX7_holds_42 : decode cX7_holds 42 = .ok (.iload 4, 2) := by decide +kernel
theorem dX7_holds_44 : decode cX7_holds 44 = .ok (.bipush 8, 2) := by decide +kernel
theorem dX7_holds_46 : decode cX7_holds 46 = .ok (.if_icmp .eq 33, 3) := by decide +kernel
theorem dX7_holds_49 : decode cX7_holds 49 = .ok (.lload_n 2, 1) := by decide +kernel
theorem dX7_holds_50 : decode cX7_holds 50 = .ok (.ldc2_w 68, 3) := by decide +kernel
theorem dX7_holds_53 : decode cX7_holds 53 = .ok (.bipush 8, 2) := by decide +kernel
theorem dX7_holds_55 : decode cX7_holds 55 = .ok (.iload 4, 2) := by decide +kernel
theorem dX7_holds_57 : decode cX7_holds 57 = .ok (.imul, 1) := by decide +kernel
theorem dX7_holds_58 : decode cX7_holds 58 = .ok (.iconst 1, 1) := by decide +kernel
theorem dX7_holds_59 : decode cX7_holds 59 = .ok (.isub, 1) := by decide +kernel
theorem dX7_holds_60 : decode cX7_holds 60 = .ok (.lshl, 1) := by decide +kernel
theorem dX7_holds_61 : decode cX7_holds 61 = .ok (.lcmp, 1) := by decide +kernel
theorem dX7_holds_62 : decode cX7_holds 62 = .ok (.ifCond .lt 21, 3) := by decide +kernel
theorem dX7_holds_65 : decode cX7_holds 65 = .ok (.lload_n 2, 1) := by decide +kernel
theorem dX7_holds_66 : decode cX7_holds 66 = .ok (.lconst 1, 1) := by decide +kernel
theorem dX7_holds_67 : decode cX7_holds 67 = .ok (.bipush 8, 2) := by decide +kernel
theorem dX7_holds_69 : decode cX7_holds 69 = .ok (.iload 4, 2) := by decide +kernel
theorem dX7_holds_71 : decode cX7_holds 71 = .ok (.imul, 1) := by decide +kernel
theorem dX7_holds_72 : decode cX7_holds 72 = .ok (.iconst 1, 1) := by decide +kernel
theorem dX7_holds_73 : decode cX7_holds 73 = .ok (.isub, 1) := by decide +kernel
theorem dX7_holds_74 : decode cX7_holds 74 = .ok (.lshl, 1) := by decide +kernel
theorem dX7_holds_75 : decode cX7_holds 75 = .ok (.lcmp, 1) := by decide +kernel
theorem dX7_holds_76 : decode cX7_holds 76 = .ok (.ifCond .ge 7, 3) := by decide +kernel
theorem dX7_holds_79 : decode cX7_holds 79 = .ok (.iconst 1, 1) := by decide +kernel
theorem dX7_holds_80 : decode cX7_holds 80 = .ok (.goto 4, 3) := by decide +kernel
theorem dX7_holds_83 : decode cX7_holds 83 = .ok (.iconst 0, 1) := by decide +kernel
theorem dX7_holds_84 : decode cX7_holds 84 = .ok (.ireturn, 1) := by decide +kernel
theorem dX7_place_0 : decode cX7_place 0 = .ok (.iload_n 0, 1) := by decide +kernel
theorem dX7_place_1 : decode cX7_place 1 = .ok (.tableswitch 267 1 12 #[63, 82, 101, 120, 139, 149, 168, 188, 198, 217, 227, 247], 63) := by decide +kernel
theorem dX7_place_64 : decode cX7_place 64 = .ok (.iload_n 1, 1) := by decide +kernel
theorem dX7_place_65 : decode cX7_place 65 = .ok (.ifCond .ne 7, 3) := by decide +kernel
theorem dX7_place_68 : decode cX7_place 68 = .ok (.iconst 2, 1) := by decide +kernel
theorem dX7_place_69 : decode cX7_place 69 = .ok (.goto 13, 3) := by decide +kernel
theorem dX7_place_72 : decode cX7_place 72 = .ok (.iload_n 1, 1) := by decide +kernel
theorem dX7_place_73 : decode cX7_place 73 = .ok (.iconst 1, 1) := by decide +kernel
theorem dX7_place_74 : decode cX7_place 74 = .ok (.if_icmp .ne 7, 3) := by decide +kernel
theorem dX7_place_77 : decode cX7_place 77 = .ok (.iconst 1, 1) := by decide +kernel
theorem dX7_place_78 : decode cX7_place 78 = .ok (.goto 4, 3) := by decide +kernel
theorem dX7_place_81 : decode cX7_place 81 = .ok (.iconst 0, 1) := by decide +kernel
theorem dX7_place_82 : decode cX7_place 82 = .ok (.ireturn, 1) := by decide +kernel
theorem dX7_place_83 : decode cX7_place 83 = .ok (.iload_n 1, 1) := by decide +kernel
theorem dX7_place_84 : decode cX7_place 84 = .ok (.ifCond .ne 7, 3) := by decide +kernel
theorem dX7_place_87 : decode cX7_place 87 = .ok (.iconst 1, 1) := by decide +kernel
theorem dX7_place_88 : decode cX7_place 88 = .ok (.goto 13, 3) := by decide +kernel
theorem dX7_place_91 : decode cX7_place 91 = .ok (.iload_n 1, 1) := by decide +kernel
theorem dX7_place_92 : decode cX7_place 92 = .ok (.iconst 1, 1) := by decide +kernel
theorem dX7_place_93 : decode cX7_place 93 = .ok (.if_icmp .ne 7, 3) := by decide +kernel
theorem dX7_place_96 : decode cX7_place 96 = .ok (.iconst 2, 1) := by decide +kernel
theorem dX7_place_97 : decode cX7_place 97 = .ok (.goto 4, 3) := by decide +kernel
theorem dX7_place_100 : decode cX7_place 100 = .ok (.iconst 0, 1) := by decide +kernel
theorem dX7_place_101 : decode cX7_place 101 = .ok (.ireturn, 1) := by decide +kernel
theorem dX7_place_102 : decode cX7_place 102 = .ok (.iload_n 1, 1) := by decide +kernel
theorem dX7_place_103 : decode cX7_place 103 = .ok (.ifCond .ne 7, 3) := by decide +kernel
theorem dX7_place_106 : decode cX7_place 106 = .ok (.iconst 4, 1) := by decide +kernel
theorem dX7_place_107 : decode cX7_place 107 = .ok (.goto 13, 3) := by decide +kernel
theorem dX7_place_110 : decode cX7_place 110 = .ok (.iload_n 1, 1) := by decide +kernel
theorem dX7_place_111 : decode cX7_place 111 = .ok (.iconst 1, 1) := by decide +kernel
theorem dX7_place_112 : decode cX7_place 112 = .ok (.if_icmp .ne 7, 3) := by decide +kernel
theorem dX7_place_115 : decode cX7_place 115 = .ok (.iconst 3, 1) := by decide +kernel
theorem dX7_place_116 : decode cX7_place 116 = .ok (.goto 4, 3) := by decide +kernel
theorem dX7_place_119 : decode cX7_place 119 = .ok (.iconst 0, 1) := by decide +kernel
theorem dX7_place_120 : decode cX7_place 120 = .ok (.ireturn, 1) := by decide +kernel
theorem dX7_place_121 : decode cX7_place 121 = .ok (.iload_n 1, 1) := by decide +kernel
theorem dX7_place_122 : decode cX7_place 122 = .ok (.ifCond .ne 7, 3) := by decide +kernel
theorem dX7_place_125 : decode cX7_place 125 = .ok (.iconst 2, 1) := by decide +kernel
theorem dX7_place_126 : decode cX7_place 126 = .ok (.goto 13, 3) := by decide +kernel
theorem dX7_place_129 : decode cX7_place 129 = .ok (.iload_n 1, 1) := by decide +kernel
theorem dX7_place_130 : decode cX7_place 130 = .ok (.iconst 1, 1) := by decide +kernel
theorem dX7_place_131 : decode cX7_place 131 = .ok (.if_icmp .ne 7, 3) := by decide +kernel
theorem dX7_place_134 : decode cX7_place 134 = .ok (.iconst 3, 1) := by decide +kernel
theorem dX7_place_135 : decode cX7_place 135 = .ok (.goto 4, 3) := by decide +kernel
theorem dX7_place_138 : decode cX7_place 138 = .ok (.iconst 0, 1) := by decide +kernel
theorem dX7_place_139 : decode cX7_place 139 = .ok (.ireturn, 1) := by decide +kernel
theorem dX7_place_140 : decode cX7_place 140 = .ok (.iload_n 1, 1) := by decide +kernel
theorem dX7_place_141 : decode cX7_place 141 = .ok (.ifCond .ne 7, 3) := by decide +kernel
theorem dX7_place_144 : decode cX7_place 144 = .ok (.iconst 5, 1) := by decide +kernel
theorem dX7_place_145 : decode cX7_place 145 = .ok (.goto 4, 3) := by decide +kernel
theorem dX7_place_148 : decode cX7_place 148 = .ok (.iconst 0, 1) := by decide +kernel
theorem dX7_place_149 : decode cX7_place 149 = .ok (.ireturn, 1) := by decide +kernel
theorem dX7_place_150 : decode cX7_place 150 = .ok (.iload_n 1, 1) := by decide +kernel
theorem dX7_place_151 : decode cX7_place 151 = .ok (.ifCond .ne 7, 3) := by decide +kernel
theorem dX7_place_154 : decode cX7_place 154 = .ok (.iconst 5, 1) := by decide +kernel
theorem dX7_place_155 : decode cX7_place 155 = .ok (.goto 13, 3) := by decide +kernel
theorem dX7_place_158 : decode cX7_place 158 = .ok (.iload_n 1, 1) := by decide +kernel
theorem dX7_place_159 : decode cX7_place 159 = .ok (.iconst 1, 1) := by decide +kernel
theorem dX7_place_160 : decode cX7_place 160 = .ok (.if_icmp .ne 7, 3) := by decide +kernel
theorem dX7_place_163 : decode cX7_place 163 = .ok (.iconst 3, 1) := by decide +kernel
theorem dX7_place_164 : decode cX7_place 164 = .ok (.goto 4, 3) := by decide +kernel
theorem dX7_place_167 : decode cX7_place 167 = .ok (.iconst 0, 1) := by decide +kernel
theorem dX7_place_168 : decode cX7_place 168 = .ok (.ireturn, 1) := by decide +kernel
theorem dX7_place_169 : decode cX7_place 169 = .ok (.iload_n 1, 1) := by decide +kernel
theorem dX7_place_170 : decode cX7_place 170 = .ok (.ifCond .ne 7, 3) := by decide +kernel
theorem dX7_place_173 : decode cX7_place 173 = .ok (.iconst 1, 1) := by decide +kernel
theorem dX7_place_174 : decode cX7_place 174 = .ok (.goto 14, 3) := by decide +kernel
theorem dX7_place_177 : decode cX7_place 177 = .ok (.iload_n 1, 1) := by decide +kernel
theorem dX7_place_178 : decode cX7_place 178 = .ok (.iconst 1, 1) := by decide +kernel
theorem dX7_place_179 : decode cX7_place 179 = .ok (.if_icmp .ne 8, 3) := by decide +kernel
theorem dX7_place_182 : decode cX7_place 182 = .ok (.bipush 6, 2) := by decide +kernel
theorem dX7_place_184 : decode cX7_place 184 = .ok (.goto 4, 3) := by decide +kernel
theorem dX7_place_187 : decode cX7_place 187 = .ok (.iconst 0, 1) := by decide +kernel
theorem dX7_place_188 : decode cX7_place 188 = .ok (.ireturn, 1) := by decide +kernel
theorem dX7_place_189 : decode cX7_place 189 = .ok (.iload_n 1, 1) := by decide +kernel
theorem dX7_place_190 : decode cX7_place 190 = .ok (.ifCond .ne 7, 3) := by decide +kernel
theorem dX7_place_193 : decode cX7_place 193 = .ok (.iconst 2, 1) := by decide +kernel
theorem dX7_place_194 : decode cX7_place 194 = .ok (.goto 4, 3) := by decide +kernel
theorem dX7_place_197 : decode cX7_place 197 = .ok (.iconst 0, 1) := by decide +kernel
theorem dX7_place_198 : decode cX7_place 198 = .ok (.ireturn, 1) := by decide +kernel
theorem dX7_place_199 : decode cX7_place 199 = .ok (.iload_n 1, 1) := by decide +kernel
theorem dX7_place_200 : decode cX7_place 200 = .ok (.ifCond .ne 7, 3) := by decide +kernel
theorem dX7_place_203 : decode cX7_place 203 = .ok (.iconst 1, 1) := by decide +kernel
theorem dX7_place_204 : decode cX7_place 204 = .ok (.goto 13, 3) := by decide +kernel
theorem dX7_place_207 : decode cX7_place 207 = .ok (.iload_n 1, 1) := by decide +kernel
theorem dX7_place_208 : decode cX7_place 208 = .ok (.iconst 1, 1) := by decide +kernel
theorem dX7_place_209 : decode cX7_place 209 = .ok (.if_icmp .ne 7, 3) := by decide +kernel
theorem dX7_place_212 : decode cX7_place 212 = .ok (.iconst 2, 1) := by decide +kernel
theorem dX7_place_213 : decode cX7_place 213 = .ok (.goto 4, 3) := by decide +kernel
theorem dX7_place_216 : decode cX7_place 216 = .ok (.iconst 3, 1) := by decide +kernel
theorem dX7_place_217 : decode cX7_place 217 = .ok (.ireturn, 1) := by decide +kernel
theorem dX7_place_218 : decode cX7_place 218 = .ok (.iload_n 1, 1) := by decide +kernel
theorem dX7_place_219 : decode cX7_place 219 = .ok (.ifCond .ne 7, 3) := by decide +kernel
theorem dX7_place_222 : decode cX7_place 222 = .ok (.iconst 3, 1) := by decide +kernel
theorem dX7_place_223 : decode cX7_place 223 = .ok (.goto 4, 3) := by decide +kernel
theorem dX7_place_226 : decode cX7_place 226 = .ok (.iconst 0, 1) := by decide +kernel
theorem dX7_place_227 : decode cX7_place 227 = .ok (.ireturn, 1) := by decide +kernel
theorem dX7_place_228 : decode cX7_place 228 = .ok (.iload_n 1, 1) := by decide +kernel
theorem dX7_place_229 : decode cX7_place 229 = .ok (.ifCond .ne 7, 3) := by decide +kernel
theorem dX7_place_232 : decode cX7_place 232 = .ok (.iconst 2, 1) := by decide +kernel
theorem dX7_place_233 : decode cX7_place 233 = .ok (.goto 14, 3) := by decide +kernel
theorem dX7_place_236 : decode cX7_place 236 = .ok (.iload_n 1, 1) := by decide +kernel
theorem dX7_place_237 : decode cX7_place 237 = .ok (.iconst 1, 1) := by decide +kernel
theorem dX7_place_238 : decode cX7_place 238 = .ok (.if_icmp .ne 8, 3) := by decide +kernel
theorem dX7_place_241 : decode cX7_place 241 = .ok (.bipush 7, 2) := by decide +kernel
theorem dX7_place_243 : decode cX7_place 243 = .ok (.goto 4, 3) := by decide +kernel
theorem dX7_place_246 : decode cX7_place 246 = .ok (.iconst 0, 1) := by decide +kernel
theorem dX7_place_247 : decode cX7_place 247 = .ok (.ireturn, 1) := by decide +kernel
theorem dX7_place_248 : decode cX7_place 248 = .ok (.iload_n 1, 1) := by decide +kernel
theorem dX7_place_249 : decode cX7_place 249 = .ok (.ifCond .ne 7, 3) := by decide +kernel
theorem dX7_place_252 : decode cX7_place 252 = .ok (.iconst 2, 1) := by decide +kernel
theorem dX7_place_253 : decode cX7_place 253 = .ok (.goto 14, 3) := by decide +kernel
theorem dX7_place_256 : decode cX7_place 256 = .ok (.iload_n 1, 1) := by decide +kernel
theorem dX7_place_257 : decode cX7_place 257 = .ok (.iconst 1, 1) := by decide +kernel
theorem dX7_place_258 : decode cX7_place 258 = .ok (.if_icmp .ne 8, 3) := by decide +kernel
theorem dX7_place_261 : decode cX7_place 261 = .ok (.bipush 8, 2) := by decide +kernel
theorem dX7_place_263 : decode cX7_place 263 = .ok (.goto 4, 3) := by decide +kernel
theorem dX7_place_266 : decode cX7_place 266 = .ok (.iconst 0, 1) := by decide +kernel
theorem dX7_place_267 : decode cX7_place 267 = .ok (.ireturn, 1) := by decide +kernel
theorem dX7_place_268 : decode cX7_place 268 = .ok (.iconst 0, 1) := by decide +kernel
theorem dX7_place_269 : decode cX7_place 269 = .ok (.ireturn, 1) := by decide +kernel
set_option maxRecDepth 20000 in
theorem ggX7_suits_X7_place : GoodIn wsX7_suits wsX7_place := goodIn_r _ [8] rfl (by decide +kernel)
set_option maxRecDepth 20000 in
theorem gX7_suits_X7_place : GoodIn wsX7_suits (va_wsS RX7 70 yX7_place wsX7_place) := goodIn_app (goodIn_of _ (by decide +kernel)) ggX7_suits_X7_place
set_option maxRecDepth 20000 in
theorem ggX7_suits_X7_holds : GoodIn wsX7_suits wsX7_holds := goodIn_r _ [11, 12, 13, 14, 7, 15] rfl (by decide +kernel)
set_option maxRecDepth 20000 in
theorem gX7_suits_X7_holds : GoodIn wsX7_suits (va_wsS RX7 73 yX7_holds wsX7_holds) := goodIn_app (goodIn_of _ (by decide +kernel)) ggX7_suits_X7_holds
theorem dX7_suits_0 : decode cX7_suits 0 = .ok (.aload_n 0, 1) := by decide +kernel
theorem dX7_suits_1 : decode cX7_suits 1 = .ok (.getfield 16, 3) := by decide +kernel
theorem dX7_suits_4 : decode cX7_suits 4 = .ok (.iload_n 1, 1) := by decide +kernel
theorem dX7_suits_5 : decode cX7_suits 5 = .ok (.iaload, 1) := by decide +kernel
theorem dX7_suits_6 : decode cX7_suits 6 = .ok (.iload_n 2, 1) := by decide +kernel
theorem dX7_suits_7 : decode cX7_suits 7 = .ok (.invokestatic 70, 3) := by decide +kernel
theorem dX7_suits_10 : decode cX7_suits 10 = .ok (.istore 5, 2) := by decide +kernel
theorem dX7_suits_12 : decode cX7_suits 12 = .ok (.iload 5, 2) := by decide +kernel
theorem dX7_suits_14 : decode cX7_suits 14 = .ok (.tableswitch 170 1 8 #[46, 57, 73, 106, 46, 122, 133, 153], 46) := by decide +kernel
theorem dX7_suits_60 : decode cX7_suits 60 = .ok (.iload_n 3, 1) := by decide +kernel
theorem dX7_suits_61 : decode cX7_suits 61 = .ok (.iconst 1, 1) := by decide +kernel
theorem dX7_suits_62 : decode cX7_suits 62 = .ok (.if_icmp .ne 7, 3) := by decide +kernel
theorem dX7_suits_65 : decode cX7_suits 65 = .ok (.iconst 1, 1) := by decide +kernel
theorem dX7_suits_66 : decode cX7_suits 66 = .ok (.goto 4, 3) := by decide +kernel
theorem dX7_suits_69 : decode cX7_suits 69 = .ok (.iconst 0, 1) := by decide +kernel
theorem dX7_suits_70 : decode cX7_suits 70 = .ok (.ireturn, 1) := by decide +kernel
theorem dX7_suits_71 : decode cX7_suits 71 = .ok (.iload_n 3, 1) := by decide +kernel
theorem dX7_suits_72 : decode cX7_suits 72 = .ok (.iconst 1, 1) := by decide +kernel
theorem dX7_suits_73 : decode cX7_suits 73 = .ok (.if_icmp .eq 8, 3) := by decide +kernel
theorem dX7_suits_76 : decode cX7_suits 76 = .ok (.iload_n 3, 1) := by decide +kernel
theorem dX7_suits_77 : decode cX7_suits 77 = .ok (.iconst 2, 1) := by decide +kernel
theorem dX7_suits_78 : decode cX7_suits 78 = .ok (.if_icmp .ne 7, 3) := by decide +kernel
