theorem dX7_tries_43 : decode cX7_tries 43 = .ok (.getfield 7, 3) := by decide +kernel
theorem dX7_tries_46 : decode cX7_tries 46 = .ok (.iload_n 1, 1) := by decide +kernel
theorem dX7_tries_47 : decode cX7_tries 47 = .ok (.iaload, 1) := by decide +kernel
theorem dX7_tries_48 : decode cX7_tries 48 = .ok (.invokestatic 94, 3) := by decide +kernel
theorem dX7_tries_51 : decode cX7_tries 51 = .ok (.ifCond .eq 26, 3) := by decide +kernel
theorem dX7_tries_54 : decode cX7_tries 54 = .ok (.aload_n 0, 1) := by decide +kernel
theorem dX7_tries_55 : decode cX7_tries 55 = .ok (.getfield 31, 3) := by decide +kernel
theorem dX7_tries_58 : decode cX7_tries 58 = .ok (.iconst 2, 1) := by decide +kernel
theorem dX7_tries_59 : decode cX7_tries 59 = .ok (.iaload, 1) := by decide +kernel
theorem dX7_tries_60 : decode cX7_tries 60 = .ok (.ifCond .lt 30, 3) := by decide +kernel
theorem dX7_tries_63 : decode cX7_tries 63 = .ok (.aload_n 0, 1) := by decide +kernel
theorem dX7_tries_64 : decode cX7_tries 64 = .ok (.getfield 31, 3) := by decide +kernel
theorem dX7_tries_67 : decode cX7_tries 67 = .ok (.iconst 2, 1) := by decide +kernel
theorem dX7_tries_68 : decode cX7_tries 68 = .ok (.iaload, 1) := by decide +kernel
theorem dX7_tries_69 : decode cX7_tries 69 = .ok (.bipush 16, 2) := by decide +kernel
theorem dX7_tries_71 : decode cX7_tries 71 = .ok (.if_icmp .ge 19, 3) := by decide +kernel
theorem dX7_tries_74 : decode cX7_tries 74 = .ok (.goto 12, 3) := by decide +kernel
theorem dX7_tries_77 : decode cX7_tries 77 = .ok (.aload_n 0, 1) := by decide +kernel
theorem dX7_tries_78 : decode cX7_tries 78 = .ok (.getfield 31, 3) := by decide +kernel
theorem dX7_tries_81 : decode cX7_tries 81 = .ok (.iconst 2, 1) := by decide +kernel
theorem dX7_tries_82 : decode cX7_tries 82 = .ok (.iaload, 1) := by decide +kernel
theorem dX7_tries_83 : decode cX7_tries 83 = .ok (.ifCond .ne 7, 3) := by decide +kernel
theorem dX7_tries_86 : decode cX7_tries 86 = .ok (.iconst 1, 1) := by decide +kernel
theorem dX7_tries_87 : decode cX7_tries 87 = .ok (.goto 4, 3) := by decide +kernel
theorem dX7_tries_90 : decode cX7_tries 90 = .ok (.iconst 0, 1) := by decide +kernel
theorem dX7_tries_91 : decode cX7_tries 91 = .ok (.istore 4, 2) := by decide +kernel
theorem dX7_tries_93 : decode cX7_tries 93 = .ok (.iconst 0, 1) := by decide +kernel
theorem dX7_tries_94 : decode cX7_tries 94 = .ok (.istore 5, 2) := by decide +kernel
theorem dX7_tries_96 : decode cX7_tries 96 = .ok (.aload_n 0, 1) := by decide +kernel
theorem dX7_tries_97 : decode cX7_tries 97 = .ok (.getfield 13, 3) := by decide +kernel
theorem dX7_tries_100 : decode cX7_tries 100 = .ok (.iload_n 1, 1) := by decide +kernel
theorem dX7_tries_101 : decode cX7_tries 101 = .ok (.iaload, 1) := by decide +kernel
theorem dX7_tries_102 : decode cX7_tries 102 = .ok (.iconst 3, 1) := by decide +kernel
theorem dX7_tries_103 : decode cX7_tries 103 = .ok (.if_icmp .eq 39, 3) := by decide +kernel
theorem dX7_tries_106 : decode cX7_tries 106 = .ok (.iload_n 2, 1) := by decide +kernel
theorem dX7_tries_107 : decode cX7_tries 107 = .ok (.bipush 8, 2) := by decide +kernel
theorem dX7_tries_109 : decode cX7_tries 109 = .ok (.if_icmp .ne 37, 3) := by decide +kernel
theorem dX7_tries_112 : decode cX7_tries 112 = .ok (.aload_n 0, 1) := by decide +kernel
theorem dX7_tries_113 : decode cX7_tries 113 = .ok (.getfield 13, 3) := by decide +kernel
theorem dX7_tries_116 : decode cX7_tries 116 = .ok (.iload_n 1, 1) := by decide +kernel
theorem dX7_tries_117 : decode cX7_tries 117 = .ok (.iaload, 1) := by decide +kernel
theorem dX7_tries_118 : decode cX7_tries 118 = .ok (.ifCond .eq 24, 3) := by decide +kernel
theorem dX7_tries_121 : decode cX7_tries 121 = .ok (.aload_n 0, 1) := by decide +kernel
theorem dX7_tries_122 : decode cX7_tries 122 = .ok (.getfield 13, 3) := by decide +kernel
theorem dX7_tries_125 : decode cX7_tries 125 = .ok (.iload_n 1, 1) := by decide +kernel
theorem dX7_tries_126 : decode cX7_tries 126 = .ok (.iaload, 1) := by decide +kernel
theorem dX7_tries_127 : decode cX7_tries 127 = .ok (.iconst 1, 1) := by decide +kernel
theorem dX7_tries_128 : decode cX7_tries 128 = .ok (.if_icmp .eq 14, 3) := by decide +kernel
theorem dX7_tries_131 : decode cX7_tries 131 = .ok (.aload_n 0, 1) := by decide +kernel
theorem dX7_tries_132 : decode cX7_tries 132 = .ok (.getfield 13, 3) := by decide +kernel
theorem dX7_tries_135 : decode cX7_tries 135 = .ok (.iload_n 1, 1) := by decide +kernel
theorem dX7_tries_136 : decode cX7_tries 136 = .ok (.iaload, 1) := by decide +kernel
theorem dX7_tries_137 : decode cX7_tries 137 = .ok (.bipush 7, 2) := by decide +kernel
theorem dX7_tries_139 : decode cX7_tries 139 = .ok (.if_icmp .ne 7, 3) := by decide +kernel
theorem dX7_tries_142 : decode cX7_tries 142 = .ok (.iconst 1, 1) := by decide +kernel
theorem dX7_tries_143 : decode cX7_tries 143 = .ok (.goto 4, 3) := by decide +kernel
theorem dX7_tries_146 : decode cX7_tries 146 = .ok (.iconst 0, 1) := by decide +kernel
theorem dX7_tries_147 : decode cX7_tries 147 = .ok (.istore 6, 2) := by decide +kernel
theorem dX7_tries_149 : decode cX7_tries 149 = .ok (.iload 6, 2) := by decide +kernel
theorem dX7_tries_151 : decode cX7_tries 151 = .ok (.ifCond .eq 8, 3) := by decide +kernel
theorem dX7_tries_154 : decode cX7_tries 154 = .ok (.bipush 8, 2) := by decide +kernel
theorem dX7_tries_156 : decode cX7_tries 156 = .ok (.goto 4, 3) := by decide +kernel
theorem dX7_tries_159 : decode cX7_tries 159 = .ok (.iconst 0, 1) := by decide +kernel
theorem dX7_tries_160 : decode cX7_tries 160 = .ok (.istore 7, 2) := by decide +kernel
theorem dX7_tries_162 : decode cX7_tries 162 = .ok (.aload_n 0, 1) := by decide +kernel
theorem dX7_tries_163 : decode cX7_tries 163 = .ok (.getfield 25, 3) := by decide +kernel
theorem dX7_tries_166 : decode cX7_tries 166 = .ok (.iload_n 1, 1) := by decide +kernel
theorem dX7_tries_167 : decode cX7_tries 167 = .ok (.iaload, 1) := by decide +kernel
theorem dX7_tries_168 : decode cX7_tries 168 = .ok (.bipush 8, 2) := by decide +kernel
theorem dX7_tries_170 : decode cX7_tries 170 = .ok (.if_icmp .ge 12, 3) := by decide +kernel
theorem dX7_tries_173 : decode cX7_tries 173 = .ok (.aload_n 0, 1) := by decide +kernel
theorem dX7_tries_174 : decode cX7_tries 174 = .ok (.getfield 25, 3) := by decide +kernel
theorem dX7_tries_177 : decode cX7_tries 177 = .ok (.iload_n 1, 1) := by decide +kernel
theorem dX7_tries_178 : decode cX7_tries 178 = .ok (.iaload, 1) := by decide +kernel
theorem dX7_tries_179 : decode cX7_tries 179 = .ok (.goto 4, 3) := by decide +kernel
theorem dX7_tries_182 : decode cX7_tries 182 = .ok (.iconst 0, 1) := by decide +kernel
theorem dX7_tries_183 : decode cX7_tries 183 = .ok (.istore 8, 2) := by decide +kernel
theorem dX7_tries_185 : decode cX7_tries 185 = .ok (.iconst 0, 1) := by decide +kernel
theorem dX7_tries_186 : decode cX7_tries 186 = .ok (.istore 9, 2) := by decide +kernel
theorem dX7_tries_188 : decode cX7_tries 188 = .ok (.iconst 0, 1) := by decide +kernel
theorem dX7_tries_189 : decode cX7_tries 189 = .ok (.istore 10, 2) := by decide +kernel
theorem dX7_tries_191 : decode cX7_tries 191 = .ok (.iload 10, 2) := by decide +kernel
theorem dX7_tries_193 : decode cX7_tries 193 = .ok (.iconst 3, 1) := by decide +kernel
theorem dX7_tries_194 : decode cX7_tries 194 = .ok (.if_icmp .ge 207, 3) := by decide +kernel
theorem dX7_tries_197 : decode cX7_tries 197 = .ok (.iload 4, 2) := by decide +kernel
theorem dX7_tries_199 : decode cX7_tries 199 = .ok (.ifCond .eq 202, 3) := by decide +kernel
theorem dX7_tries_202 : decode cX7_tries 202 = .ok (.aload_n 0, 1) := by decide +kernel
theorem dX7_tries_203 : decode cX7_tries 203 = .ok (.getfield 31, 3) := by decide +kernel
theorem dX7_tries_206 : decode cX7_tries 206 = .ok (.iconst 3, 1) := by decide +kernel
theorem dX7_tries_207 : decode cX7_tries 207 = .ok (.iconst 2, 1) := by decide +kernel
theorem dX7_tries_208 : decode cX7_tries 208 = .ok (.iload 10, 2) := by decide +kernel
theorem dX7_tries_210 : decode cX7_tries 210 = .ok (.imul, 1) := by decide +kernel
theorem dX7_tries_211 : decode cX7_tries 211 = .ok (.iadd, 1) := by decide +kernel
theorem dX7_tries_212 : decode cX7_tries 212 = .ok (.iaload, 1) := by decide +kernel
theorem dX7_tries_213 : decode cX7_tries 213 = .ok (.istore 11, 2) := by decide +kernel
theorem dX7_tries_215 : decode cX7_tries 215 = .ok (.aload_n 0, 1) := by decide +kernel
theorem dX7_tries_216 : decode cX7_tries 216 = .ok (.getfield 31, 3) := by decide +kernel
theorem dX7_tries_219 : decode cX7_tries 219 = .ok (.iconst 4, 1) := by decide +kernel
theorem dX7_tries_220 : decode cX7_tries 220 = .ok (.iconst 2, 1) := by decide +kernel
theorem dX7_tries_221 : decode cX7_tries 221 = .ok (.iload 10, 2) := by decide +kernel
theorem dX7_tries_223 : decode cX7_tries 223 = .ok (.imul, 1) := by decide +kernel
theorem dX7_tries_224 : decode cX7_tries 224 = .ok (.iadd, 1) := by decide +kernel
theorem dX7_tries_225 : decode cX7_tries 225 = .ok (.iaload, 1) := by decide +kernel
theorem dX7_tries_226 : decode cX7_tries 226 = .ok (.istore 12, 2) := by decide +kernel
theorem dX7_tries_228 : decode cX7_tries 228 = .ok (.aload_n 0, 1) := by decide +kernel
theorem dX7_tries_229 : decode cX7_tries 229 = .ok (.iload_n 1, 1) := by decide +kernel
theorem dX7_tries_230 : decode cX7_tries 230 = .ok (.iload 10, 2) := by decide +kernel
theorem dX7_tries_232 : decode cX7_tries 232 = .ok (.iload 11, 2) := by decide +kernel
theorem dX7_tries_234 : decode cX7_tries 234 = .ok (.iload 12, 2) := by decide +kernel
theorem dX7_tries_236 : decode cX7_tries 236 = .ok (.invokevirtual 98, 3) := by decide +kernel
theorem dX7_tries_239 : decode cX7_tries 239 = .ok (.istore 4, 2) := by decide +kernel
theorem dX7_tries_241 : decode cX7_tries 241 = .ok (.iload_n 3, 1) := by decide +kernel
theorem dX7_tries_242 : decode cX7_tries 242 = .ok (.iload 10, 2) := by decide +kernel
theorem dX7_tries_244 : decode cX7_tries 244 = .ok (.invokestatic 70, 3) := by decide +kernel
theorem dX7_tries_247 : decode cX7_tries 247 = .ok (.istore 13, 2) := by decide +kernel
theorem dX7_tries_249 : decode cX7_tries 249 = .ok (.iload 5, 2) := by decide +kernel
theorem dX7_tries_251 : decode cX7_tries 251 = .ok (.ifCond .ne 9, 3) := by decide +kernel
theorem dX7_tries_254 : decode cX7_tries 254 = .ok (.iload 11, 2) := by decide +kernel
theorem dX7_tries_256 : decode cX7_tries 256 = .ok (.iconst 2, 1) := by decide +kernel
theorem dX7_tries_257 : decode cX7_tries 257 = .ok (.if_icmp .ne 7, 3) := by decide +kernel
theorem dX7_tries_260 : decode cX7_tries 260 = .ok (.iconst 1, 1) := by decide +kernel
theorem dX7_tries_261 : decode cX7_tries 261 = .ok (.goto 4, 3) := by decide +kernel
theorem dX7_tries_264 : decode cX7_tries 264 = .ok (.iconst 0, 1) := by decide +kernel
theorem dX7_tries_265 : decode cX7_tries 265 = .ok (.istore 5, 2) := by decide +kernel
theorem dX7_tries_267 : decode cX7_tries 267 = .ok (.iload 11, 2) := by decide +kernel
theorem dX7_tries_269 : decode cX7_tries 269 = .ok (.iconst 1, 1) := by decide +kernel
theorem dX7_tries_270 : decode cX7_tries 270 = .ok (.if_icmp .ne 25, 3) := by decide +kernel
theorem dX7_tries_273 : decode cX7_tries 273 = .ok (.iload 13, 2) := by decide +kernel
theorem dX7_tries_275 : decode cX7_tries 275 = .ok (.iconst 1, 1) := by decide +kernel
theorem dX7_tries_276 : decode cX7_tries 276 = .ok (.if_icmp .eq 15, 3) := by decide +kernel
theorem dX7_tries_279 : decode cX7_tries 279 = .ok (.iload 13, 2) := by decide +kernel
theorem dX7_tries_281 : decode cX7_tries 281 = .ok (.iconst 2, 1) := by decide +kernel
theorem dX7_tries_282 : decode cX7_tries 282 = .ok (.if_icmp .eq 9, 3) := by decide +kernel
theorem dX7_tries_285 : decode cX7_tries 285 = .ok (.iload 13, 2) := by decide +kernel
theorem dX7_tries_287 : decode cX7_tries 287 = .ok (.iconst 5, 1) := by decide +kernel
theorem dX7_tries_288 : decode cX7_tries 288 = .ok (.if_icmp .ne 7, 3) := by decide +kernel
theorem dX7_tries_291 : decode cX7_tries 291 = .ok (.iconst 1, 1) := by decide +kernel
theorem dX7_tries_292 : decode cX7_tries 292 = .ok (.goto 4, 3) := by decide +kernel
theorem dX7_tries_295 : decode cX7_tries 295 = .ok (.iconst 0, 1) := by decide +kernel
theorem dX7_tries_296 : decode cX7_tries 296 = .ok (.istore 14, 2) := by decide +kernel
theorem dX7_tries_298 : decode cX7_tries 298 = .ok (.iload 14, 2) := by decide +kernel
theorem dX7_tries_300 : decode cX7_tries 300 = .ok (.ifCond .eq 31, 3) := by decide +kernel
theorem dX7_tries_303 : decode cX7_tries 303 = .ok (.aload_n 0, 1) := by decide +kernel
theorem dX7_tries_304 : decode cX7_tries 304 = .ok (.iload_n 1, 1) := by decide +kernel
theorem dX7_tries_305 : decode cX7_tries 305 = .ok (.iload 13, 2) := by decide +kernel
theorem dX7_tries_307 : decode cX7_tries 307 = .ok (.iload_n 2, 1) := by decide +kernel
theorem dX7_tries_308 : decode cX7_tries 308 = .ok (.invokevirtual 102, 3) := by decide +kernel
theorem dX7_tries_311 : decode cX7_tries 311 = .ok (.iconst 1, 1) := by decide +kernel
theorem dX7_tries_312 : decode cX7_tries 312 = .ok (.if_icmp .ne 19, 3) := by decide +kernel
theorem dX7_tries_315 : decode cX7_tries 315 = .ok (.iload 12, 2) := by decide +kernel
theorem dX7_tries_317 : decode cX7_tries 317 = .ok (.iconst 3, 1) := by decide +kernel
theorem dX7_tries_318 : decode cX7_tries 318 = .ok (.if_icmp .le 13, 3) := by decide +kernel
theorem dX7_tries_321 : decode cX7_tries 321 = .ok (.iload 12, 2) := by decide +kernel
theorem dX7_tries_323 : decode cX7_tries 323 = .ok (.bipush 8, 2) := by decide +kernel
theorem dX7_tries_325 : decode cX7_tries 325 = .ok (.if_icmp .ge 6, 3) := by decide +kernel
theorem dX7_tries_328 : decode cX7_tries 328 = .ok (.iconst 1, 1) := by decide +kernel
theorem dX7_tries_329 : decode cX7_tries 329 = .ok (.istore 6, 2) := by decide +kernel
theorem dX7_tries_331 : decode cX7_tries 331 = .ok (.iload 14, 2) := by decide +kernel
theorem dX7_tries_333 : decode cX7_tries 333 = .ok (.ifCond .eq 26, 3) := by decide +kernel
theorem dX7_tries_336 : decode cX7_tries 336 = .ok (.iload 12, 2) := by decide +kernel
theorem dX7_tries_338 : decode cX7_tries 338 = .ok (.bipush 7, 2) := by decide +kernel
theorem dX7_tries_340 : decode cX7_tries 340 = .ok (.if_icmp .le 19, 3) := by decide +kernel
theorem dX7_tries_343 : decode cX7_tries 343 = .ok (.iload 7, 2) := by decide +kernel
theorem dX7_tries_345 : decode cX7_tries 345 = .ok (.iload 13, 2) := by decide +kernel
theorem dX7_tries_347 : decode cX7_tries 347 = .ok (.iconst 1, 1) := by decide +kernel
theorem dX7_tries_348 : decode cX7_tries 348 = .ok (.if_icmp .ne 7, 3) := by decide +kernel
theorem dX7_tries_351 : decode cX7_tries 351 = .ok (.iconst 4, 1) := by decide +kernel
theorem dX7_tries_352 : decode cX7_tries 352 = .ok (.goto 4, 3) := by decide +kernel
theorem dX7_tries_355 : decode cX7_tries 355 = .ok (.iconst 1, 1) := by decide +kernel
theorem dX7_tries_356 : decode cX7_tries 356 = .ok (.ior, 1) := by decide +kernel
theorem dX7_tries_357 : decode cX7_tries 357 = .ok (.istore 7, 2) := by decide +kernel
theorem dX7_tries_359 : decode cX7_tries 359 = .ok (.iload 14, 2) := by decide +kernel
theorem dX7_tries_361 : decode cX7_tries 361 = .ok (.ifCond .eq 16, 3) := by decide +kernel
theorem dX7_tries_364 : decode cX7_tries 364 = .ok (.iload 13, 2) := by decide +kernel
theorem dX7_tries_366 : decode cX7_tries 366 = .ok (.iconst 1, 1) := by decide +kernel
theorem dX7_tries_367 : decode cX7_tries 367 = .ok (.if_icmp .ne 10, 3) := by decide +kernel
theorem dX7_tries_370 : decode cX7_tries 370 = .ok (.iload 12, 2) := by decide +kernel
theorem dX7_tries_372 : decode cX7_tries 372 = .ok (.bipush 7, 2) := by decide +kernel
theorem dX7_tries_374 : decode cX7_tries 374 = .ok (.iand, 1) := by decide +kernel
theorem dX7_tries_375 : decode cX7_tries 375 = .ok (.istore 8, 2) := by decide +kernel
theorem dX7_tries_377 : decode cX7_tries 377 = .ok (.iload 14, 2) := by decide +kernel
theorem dX7_tries_379 : decode cX7_tries 379 = .ok (.ifCond .eq 16, 3) := by decide +kernel
theorem dX7_tries_382 : decode cX7_tries 382 = .ok (.iload 13, 2) := by decide +kernel
theorem dX7_tries_384 : decode cX7_tries 384 = .ok (.iconst 1, 1) := by decide +kernel
theorem dX7_tries_385 : decode cX7_tries 385 = .ok (.if_icmp .eq 10, 3) := by decide +kernel
theorem dX7_tries_388 : decode cX7_tries 388 = .ok (.iload 12, 2) := by decide +kernel
theorem dX7_tries_390 : decode cX7_tries 390 = .ok (.bipush 7, 2) := by decide +kernel
theorem dX7_tries_392 : decode cX7_tries 392 = .ok (.iand, 1) := by decide +kernel
theorem dX7_tries_393 : decode cX7_tries 393 = .ok (.istore 9, 2) := by decide +kernel
theorem dX7_tries_395 : decode cX7_tries 395 = .ok (.iinc 10 1, 3) := by decide +kernel
theorem dX7_tries_398 : decode cX7_tries 398 = .ok (.goto (-207), 3) := by decide +kernel
theorem dX7_tries_401 : decode cX7_tries 401 = .ok (.iload 4, 2) := by decide +kernel
theorem dX7_tries_403 : decode cX7_tries 403 = .ok (.ifCond .eq 15, 3) := by decide +kernel
theorem dX7_tries_406 : decode cX7_tries 406 = .ok (.iload 5, 2) := by decide +kernel
theorem dX7_tries_408 : decode cX7_tries 408 = .ok (.ifCond .eq 12, 3) := by decide +kernel
theorem dX7_tries_411 : decode cX7_tries 411 = .ok (.aload_n 0, 1) := by decide +kernel
theorem dX7_tries_412 : decode cX7_tries 412 = .ok (.invokevirtual 106, 3) := by decide +kernel
theorem dX7_tries_415 : decode cX7_tries 415 = .ok (.ifCond .ne 5, 3) := by decide +kernel
theorem dX7_tries_418 : decode cX7_tries 418 = .ok (.iconst 0, 1) := by decide +kernel
theorem dX7_tries_419 : decode cX7_tries 419 = .ok (.ireturn, 1) := by decide +kernel
