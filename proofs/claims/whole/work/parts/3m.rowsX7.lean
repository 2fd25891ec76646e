theorem dX7_fits_166 : decode cX7_fits 166 = .ok (.goto 4, 3) := by decide +kernel
theorem dX7_fits_169 : decode cX7_fits 169 = .ok (.iconst 0, 1) := by decide +kernel
theorem dX7_fits_170 : decode cX7_fits 170 = .ok (.istore 8, 2) := by decide +kernel
theorem dX7_fits_172 : decode cX7_fits 172 = .ok (.iload 7, 2) := by decide +kernel
theorem dX7_fits_174 : decode cX7_fits 174 = .ok (.ifCond .eq 8, 3) := by decide +kernel
theorem dX7_fits_177 : decode cX7_fits 177 = .ok (.bipush 7, 2) := by decide +kernel
theorem dX7_fits_179 : decode cX7_fits 179 = .ok (.goto 30, 3) := by decide +kernel
theorem dX7_fits_182 : decode cX7_fits 182 = .ok (.aload_n 0, 1) := by decide +kernel
theorem dX7_fits_183 : decode cX7_fits 183 = .ok (.getfield 7, 3) := by decide +kernel
theorem dX7_fits_186 : decode cX7_fits 186 = .ok (.iload_n 1, 1) := by decide +kernel
theorem dX7_fits_187 : decode cX7_fits 187 = .ok (.iaload, 1) := by decide +kernel
theorem dX7_fits_188 : decode cX7_fits 188 = .ok (.invokestatic 94, 3) := by decide +kernel
theorem dX7_fits_191 : decode cX7_fits 191 = .ok (.ifCond .eq 8, 3) := by decide +kernel
theorem dX7_fits_194 : decode cX7_fits 194 = .ok (.bipush 15, 2) := by decide +kernel
theorem dX7_fits_196 : decode cX7_fits 196 = .ok (.goto 13, 3) := by decide +kernel
theorem dX7_fits_199 : decode cX7_fits 199 = .ok (.iload 8, 2) := by decide +kernel
theorem dX7_fits_201 : decode cX7_fits 201 = .ok (.ifCond .eq 7, 3) := by decide +kernel
theorem dX7_fits_204 : decode cX7_fits 204 = .ok (.iconst 1, 1) := by decide +kernel
theorem dX7_fits_205 : decode cX7_fits 205 = .ok (.goto 4, 3) := by decide +kernel
theorem dX7_fits_208 : decode cX7_fits 208 = .ok (.iconst 0, 1) := by decide +kernel
theorem dX7_fits_209 : decode cX7_fits 209 = .ok (.istore 9, 2) := by decide +kernel
theorem dX7_fits_211 : decode cX7_fits 211 = .ok (.iload 6, 2) := by decide +kernel
theorem dX7_fits_213 : decode cX7_fits 213 = .ok (.ifCond .lt 10, 3) := by decide +kernel
theorem dX7_fits_216 : decode cX7_fits 216 = .ok (.iload 6, 2) := by decide +kernel
theorem dX7_fits_218 : decode cX7_fits 218 = .ok (.iload 9, 2) := by decide +kernel
theorem dX7_fits_220 : decode cX7_fits 220 = .ok (.if_icmp .le 5, 3) := by decide +kernel
theorem dX7_fits_223 : decode cX7_fits 223 = .ok (.iconst 0, 1) := by decide +kernel
theorem dX7_fits_224 : decode cX7_fits 224 = .ok (.ireturn, 1) := by decide +kernel
theorem dX7_fits_225 : decode cX7_fits 225 = .ok (.aload_n 0, 1) := by decide +kernel
theorem dX7_fits_226 : decode cX7_fits 226 = .ok (.getfield 136, 3) := by decide +kernel
theorem dX7_fits_229 : decode cX7_fits 229 = .ok (.bipush 8, 2) := by decide +kernel
theorem dX7_fits_231 : decode cX7_fits 231 = .ok (.iand, 1) := by decide +kernel
theorem dX7_fits_232 : decode cX7_fits 232 = .ok (.ifCond .eq 7, 3) := by decide +kernel
theorem dX7_fits_235 : decode cX7_fits 235 = .ok (.iconst 1, 1) := by decide +kernel
theorem dX7_fits_236 : decode cX7_fits 236 = .ok (.goto 4, 3) := by decide +kernel
theorem dX7_fits_239 : decode cX7_fits 239 = .ok (.iconst 0, 1) := by decide +kernel
theorem dX7_fits_240 : decode cX7_fits 240 = .ok (.istore 10, 2) := by decide +kernel
theorem dX7_fits_242 : decode cX7_fits 242 = .ok (.aload_n 0, 1) := by decide +kernel
theorem dX7_fits_243 : decode cX7_fits 243 = .ok (.getfield 13, 3) := by decide +kernel
theorem dX7_fits_246 : decode cX7_fits 246 = .ok (.iload_n 1, 1) := by decide +kernel
theorem dX7_fits_247 : decode cX7_fits 247 = .ok (.iaload, 1) := by decide +kernel
theorem dX7_fits_248 : decode cX7_fits 248 = .ok (.bipush 6, 2) := by decide +kernel
theorem dX7_fits_250 : decode cX7_fits 250 = .ok (.if_icmp .ne 16, 3) := by decide +kernel
theorem dX7_fits_253 : decode cX7_fits 253 = .ok (.iload 10, 2) := by decide +kernel
theorem dX7_fits_255 : decode cX7_fits 255 = .ok (.ifCond .ne 7, 3) := by decide +kernel
theorem dX7_fits_258 : decode cX7_fits 258 = .ok (.iconst 1, 1) := by decide +kernel
theorem dX7_fits_259 : decode cX7_fits 259 = .ok (.goto 34, 3) := by decide +kernel
theorem dX7_fits_262 : decode cX7_fits 262 = .ok (.iconst 0, 1) := by decide +kernel
theorem dX7_fits_263 : decode cX7_fits 263 = .ok (.goto 30, 3) := by decide +kernel
theorem dX7_fits_266 : decode cX7_fits 266 = .ok (.aload_n 0, 1) := by decide +kernel
theorem dX7_fits_267 : decode cX7_fits 267 = .ok (.getfield 13, 3) := by decide +kernel
theorem dX7_fits_270 : decode cX7_fits 270 = .ok (.iload_n 1, 1) := by decide +kernel
theorem dX7_fits_271 : decode cX7_fits 271 = .ok (.iaload, 1) := by decide +kernel
theorem dX7_fits_272 : decode cX7_fits 272 = .ok (.bipush 7, 2) := by decide +kernel
theorem dX7_fits_274 : decode cX7_fits 274 = .ok (.if_icmp .eq 13, 3) := by decide +kernel
theorem dX7_fits_277 : decode cX7_fits 277 = .ok (.aload_n 0, 1) := by decide +kernel
theorem dX7_fits_278 : decode cX7_fits 278 = .ok (.getfield 13, 3) := by decide +kernel
theorem dX7_fits_281 : decode cX7_fits 281 = .ok (.iload_n 1, 1) := by decide +kernel
theorem dX7_fits_282 : decode cX7_fits 282 = .ok (.iaload, 1) := by decide +kernel
theorem dX7_fits_283 : decode cX7_fits 283 = .ok (.iconst 3, 1) := by decide +kernel
theorem dX7_fits_284 : decode cX7_fits 284 = .ok (.if_icmp .ne 8, 3) := by decide +kernel
theorem dX7_fits_287 : decode cX7_fits 287 = .ok (.iload 10, 2) := by decide +kernel
theorem dX7_fits_289 : decode cX7_fits 289 = .ok (.goto 4, 3) := by decide +kernel
theorem dX7_fits_292 : decode cX7_fits 292 = .ok (.iconst 1, 1) := by decide +kernel
theorem dX7_fits_293 : decode cX7_fits 293 = .ok (.istore 11, 2) := by decide +kernel
theorem dX7_fits_295 : decode cX7_fits 295 = .ok (.iload 11, 2) := by decide +kernel
theorem dX7_fits_297 : decode cX7_fits 297 = .ok (.ifCond .ne 5, 3) := by decide +kernel
theorem dX7_fits_300 : decode cX7_fits 300 = .ok (.iconst 0, 1) := by decide +kernel
theorem dX7_fits_301 : decode cX7_fits 301 = .ok (.ireturn, 1) := by decide +kernel
theorem dX7_fits_302 : decode cX7_fits 302 = .ok (.iload 8, 2) := by decide +kernel
theorem dX7_fits_304 : decode cX7_fits 304 = .ok (.ifCond .eq 8, 3) := by decide +kernel
theorem dX7_fits_307 : decode cX7_fits 307 = .ok (.iload 6, 2) := by decide +kernel
theorem dX7_fits_309 : decode cX7_fits 309 = .ok (.ifCond .eq 13, 3) := by decide +kernel
theorem dX7_fits_312 : decode cX7_fits 312 = .ok (.aload_n 0, 1) := by decide +kernel
theorem dX7_fits_313 : decode cX7_fits 313 = .ok (.getfield 13, 3) := by decide +kernel
theorem dX7_fits_316 : decode cX7_fits 316 = .ok (.iload_n 1, 1) := by decide +kernel
theorem dX7_fits_317 : decode cX7_fits 317 = .ok (.iaload, 1) := by decide +kernel
theorem dX7_fits_318 : decode cX7_fits 318 = .ok (.iconst 5, 1) := by decide +kernel
theorem dX7_fits_319 : decode cX7_fits 319 = .ok (.if_icmp .ne 7, 3) := by decide +kernel
theorem dX7_fits_322 : decode cX7_fits 322 = .ok (.iconst 1, 1) := by decide +kernel
theorem dX7_fits_323 : decode cX7_fits 323 = .ok (.goto 63, 3) := by decide +kernel
theorem dX7_fits_326 : decode cX7_fits 326 = .ok (.iload 8, 2) := by decide +kernel
theorem dX7_fits_328 : decode cX7_fits 328 = .ok (.ifCond .ne 13, 3) := by decide +kernel
theorem dX7_fits_331 : decode cX7_fits 331 = .ok (.aload_n 0, 1) := by decide +kernel
theorem dX7_fits_332 : decode cX7_fits 332 = .ok (.getfield 13, 3) := by decide +kernel
theorem dX7_fits_335 : decode cX7_fits 335 = .ok (.iload_n 1, 1) := by decide +kernel
theorem dX7_fits_336 : decode cX7_fits 336 = .ok (.iaload, 1) := by decide +kernel
theorem dX7_fits_337 : decode cX7_fits 337 = .ok (.iconst 1, 1) := by decide +kernel
theorem dX7_fits_338 : decode cX7_fits 338 = .ok (.if_icmp .ne 17, 3) := by decide +kernel
theorem dX7_fits_341 : decode cX7_fits 341 = .ok (.iload 10, 2) := by decide +kernel
theorem dX7_fits_343 : decode cX7_fits 343 = .ok (.ifCond .eq 8, 3) := by decide +kernel
theorem dX7_fits_346 : decode cX7_fits 346 = .ok (.bipush 8, 2) := by decide +kernel
theorem dX7_fits_348 : decode cX7_fits 348 = .ok (.goto 38, 3) := by decide +kernel
theorem dX7_fits_351 : decode cX7_fits 351 = .ok (.iconst 4, 1) := by decide +kernel
theorem dX7_fits_352 : decode cX7_fits 352 = .ok (.goto 34, 3) := by decide +kernel
theorem dX7_fits_355 : decode cX7_fits 355 = .ok (.aload_n 0, 1) := by decide +kernel
theorem dX7_fits_356 : decode cX7_fits 356 = .ok (.getfield 13, 3) := by decide +kernel
theorem dX7_fits_359 : decode cX7_fits 359 = .ok (.iload_n 1, 1) := by decide +kernel
theorem dX7_fits_360 : decode cX7_fits 360 = .ok (.iaload, 1) := by decide +kernel
theorem dX7_fits_361 : decode cX7_fits 361 = .ok (.bipush 6, 2) := by decide +kernel
theorem dX7_fits_363 : decode cX7_fits 363 = .ok (.if_icmp .ne 7, 3) := by decide +kernel
theorem dX7_fits_366 : decode cX7_fits 366 = .ok (.iconst 4, 1) := by decide +kernel
theorem dX7_fits_367 : decode cX7_fits 367 = .ok (.goto 19, 3) := by decide +kernel
theorem dX7_fits_370 : decode cX7_fits 370 = .ok (.aload_n 0, 1) := by decide +kernel
theorem dX7_fits_371 : decode cX7_fits 371 = .ok (.getfield 13, 3) := by decide +kernel
theorem dX7_fits_374 : decode cX7_fits 374 = .ok (.iload_n 1, 1) := by decide +kernel
theorem dX7_fits_375 : decode cX7_fits 375 = .ok (.iaload, 1) := by decide +kernel
theorem dX7_fits_376 : decode cX7_fits 376 = .ok (.iconst 4, 1) := by decide +kernel
theorem dX7_fits_377 : decode cX7_fits 377 = .ok (.if_icmp .ne 7, 3) := by decide +kernel
theorem dX7_fits_380 : decode cX7_fits 380 = .ok (.iconst 0, 1) := by decide +kernel
theorem dX7_fits_381 : decode cX7_fits 381 = .ok (.goto 5, 3) := by decide +kernel
theorem dX7_fits_384 : decode cX7_fits 384 = .ok (.bipush 8, 2) := by decide +kernel
theorem dX7_fits_386 : decode cX7_fits 386 = .ok (.istore 12, 2) := by decide +kernel
theorem dX7_fits_388 : decode cX7_fits 388 = .ok (.aload_n 0, 1) := by decide +kernel
theorem dX7_fits_389 : decode cX7_fits 389 = .ok (.getfield 34, 3) := by decide +kernel
theorem dX7_fits_392 : decode cX7_fits 392 = .ok (.iconst 0, 1) := by decide +kernel
theorem dX7_fits_393 : decode cX7_fits 393 = .ok (.aload_n 0, 1) := by decide +kernel
theorem dX7_fits_394 : decode cX7_fits 394 = .ok (.getfield 7, 3) := by decide +kernel
theorem dX7_fits_397 : decode cX7_fits 397 = .ok (.iload_n 1, 1) := by decide +kernel
theorem dX7_fits_398 : decode cX7_fits 398 = .ok (.iaload, 1) := by decide +kernel
theorem dX7_fits_399 : decode cX7_fits 399 = .ok (.iastore, 1) := by decide +kernel
theorem dX7_fits_400 : decode cX7_fits 400 = .ok (.aload_n 0, 1) := by decide +kernel
theorem dX7_fits_401 : decode cX7_fits 401 = .ok (.getfield 34, 3) := by decide +kernel
theorem dX7_fits_404 : decode cX7_fits 404 = .ok (.iconst 1, 1) := by decide +kernel
theorem dX7_fits_405 : decode cX7_fits 405 = .ok (.iload 12, 2) := by decide +kernel
theorem dX7_fits_407 : decode cX7_fits 407 = .ok (.iastore, 1) := by decide +kernel
theorem dX7_fits_408 : decode cX7_fits 408 = .ok (.aload_n 0, 1) := by decide +kernel
theorem dX7_fits_409 : decode cX7_fits 409 = .ok (.getfield 34, 3) := by decide +kernel
theorem dX7_fits_412 : decode cX7_fits 412 = .ok (.iconst 2, 1) := by decide +kernel
theorem dX7_fits_413 : decode cX7_fits 413 = .ok (.aload_n 0, 1) := by decide +kernel
theorem dX7_fits_414 : decode cX7_fits 414 = .ok (.getfield 7, 3) := by decide +kernel
theorem dX7_fits_417 : decode cX7_fits 417 = .ok (.iload_n 1, 1) := by decide +kernel
theorem dX7_fits_418 : decode cX7_fits 418 = .ok (.iaload, 1) := by decide +kernel
theorem dX7_fits_419 : decode cX7_fits 419 = .ok (.invokestatic 94, 3) := by decide +kernel
theorem dX7_fits_422 : decode cX7_fits 422 = .ok (.ifCond .eq 8, 3) := by decide +kernel
theorem dX7_fits_425 : decode cX7_fits 425 = .ok (.iload 6, 2) := by decide +kernel
theorem dX7_fits_427 : decode cX7_fits 427 = .ok (.goto 4, 3) := by decide +kernel
theorem dX7_fits_430 : decode cX7_fits 430 = .ok (.iconst 0, 1) := by decide +kernel
theorem dX7_fits_431 : decode cX7_fits 431 = .ok (.iastore, 1) := by decide +kernel
theorem dX7_fits_432 : decode cX7_fits 432 = .ok (.iload 5, 2) := by decide +kernel
theorem dX7_fits_434 : decode cX7_fits 434 = .ok (.invokestatic 110, 3) := by decide +kernel
theorem dX7_fits_437 : decode cX7_fits 437 = .ok (.ifCond .eq 10, 3) := by decide +kernel
theorem dX7_fits_440 : decode cX7_fits 440 = .ok (.aload_n 0, 1) := by decide +kernel
theorem dX7_fits_441 : decode cX7_fits 441 = .ok (.invokevirtual 132, 3) := by decide +kernel
theorem dX7_fits_444 : decode cX7_fits 444 = .ok (.goto 4, 3) := by decide +kernel
theorem dX7_fits_447 : decode cX7_fits 447 = .ok (.iconst 0, 1) := by decide +kernel
theorem dX7_fits_448 : decode cX7_fits 448 = .ok (.istore 13, 2) := by decide +kernel
theorem dX7_fits_450 : decode cX7_fits 450 = .ok (.iload 5, 2) := by decide +kernel
theorem dX7_fits_452 : decode cX7_fits 452 = .ok (.invokestatic 110, 3) := by decide +kernel
theorem dX7_fits_455 : decode cX7_fits 455 = .ok (.ifCond .eq 30, 3) := by decide +kernel
theorem dX7_fits_458 : decode cX7_fits 458 = .ok (.aload_n 0, 1) := by decide +kernel
theorem dX7_fits_459 : decode cX7_fits 459 = .ok (.getfield 25, 3) := by decide +kernel
theorem dX7_fits_462 : decode cX7_fits 462 = .ok (.iload_n 1, 1) := by decide +kernel
theorem dX7_fits_463 : decode cX7_fits 463 = .ok (.iaload, 1) := by decide +kernel
theorem dX7_fits_464 : decode cX7_fits 464 = .ok (.bipush 8, 2) := by decide +kernel
theorem dX7_fits_466 : decode cX7_fits 466 = .ok (.if_icmp .ge 19, 3) := by decide +kernel
theorem dX7_fits_469 : decode cX7_fits 469 = .ok (.iload 13, 2) := by decide +kernel
theorem dX7_fits_471 : decode cX7_fits 471 = .ok (.iconst 3, 1) := by decide +kernel
theorem dX7_fits_472 : decode cX7_fits 472 = .ok (.ishr, 1) := by decide +kernel
theorem dX7_fits_473 : decode cX7_fits 473 = .ok (.bipush 7, 2) := by decide +kernel
theorem dX7_fits_475 : decode cX7_fits 475 = .ok (.iand, 1) := by decide +kernel
theorem dX7_fits_476 : decode cX7_fits 476 = .ok (.aload_n 0, 1) := by decide +kernel
theorem dX7_fits_477 : decode cX7_fits 477 = .ok (.getfield 25, 3) := by decide +kernel
theorem dX7_fits_480 : decode cX7_fits 480 = .ok (.iload_n 1, 1) := by decide +kernel
theorem dX7_fits_481 : decode cX7_fits 481 = .ok (.iaload, 1) := by decide +kernel
theorem dX7_fits_482 : decode cX7_fits 482 = .ok (.if_icmp .ne 18, 3) := by decide +kernel
theorem dX7_fits_485 : decode cX7_fits 485 = .ok (.iload 5, 2) := by decide +kernel
theorem dX7_fits_487 : decode cX7_fits 487 = .ok (.bipush 7, 2) := by decide +kernel
theorem dX7_fits_489 : decode cX7_fits 489 = .ok (.if_icmp .ne 13, 3) := by decide +kernel
theorem dX7_fits_492 : decode cX7_fits 492 = .ok (.iload 13, 2) := by decide +kernel
theorem dX7_fits_494 : decode cX7_fits 494 = .ok (.sipush 191, 3) := by decide +kernel
theorem dX7_fits_497 : decode cX7_fits 497 = .ok (.if_icmp .le 5, 3) := by decide +kernel
theorem dX7_fits_500 : decode cX7_fits 500 = .ok (.iconst 0, 1) := by decide +kernel
theorem dX7_fits_501 : decode cX7_fits 501 = .ok (.ireturn, 1) := by decide +kernel
theorem dX7_fits_502 : decode cX7_fits 502 = .ok (.iconst 0, 1) := by decide +kernel
theorem dX7_fits_503 : decode cX7_fits 503 = .ok (.istore 14, 2) := by decide +kernel
theorem dX7_fits_505 : decode cX7_fits 505 = .ok (.iload 14, 2) := by decide +kernel
theorem dX7_fits_507 : decode cX7_fits 507 = .ok (.iconst 3, 1) := by decide +kernel
theorem dX7_fits_508 : decode cX7_fits 508 = .ok (.if_icmp .ge 251, 3) := by decide +kernel
theorem dX7_fits_511 : decode cX7_fits 511 = .ok (.iload 5, 2) := by decide +kernel
theorem dX7_fits_513 : decode cX7_fits 513 = .ok (.iload 14, 2) := by decide +kernel
theorem dX7_fits_515 : decode cX7_fits 515 = .ok (.invokestatic 70, 3) := by decide +kernel
theorem dX7_fits_518 : decode cX7_fits 518 = .ok (.istore 15, 2) := by decide +kernel
theorem dX7_fits_520 : decode cX7_fits 520 = .ok (.iload 15, 2) := by decide +kernel
theorem dX7_fits_522 : decode cX7_fits 522 = .ok (.iconst 1, 1) := by decide +kernel
theorem dX7_fits_523 : decode cX7_fits 523 = .ok (.if_icmp .ne 25, 3) := by decide +kernel
theorem dX7_fits_526 : decode cX7_fits 526 = .ok (.aload_n 0, 1) := by decide +kernel
theorem dX7_fits_527 : decode cX7_fits 527 = .ok (.getfield 136, 3) := by decide +kernel
theorem dX7_fits_530 : decode cX7_fits 530 = .ok (.iconst 2, 1) := by decide +kernel
theorem dX7_fits_531 : decode cX7_fits 531 = .ok (.ishr, 1) := by decide +kernel
theorem dX7_fits_532 : decode cX7_fits 532 = .ok (.iconst 1, 1) := by decide +kernel
theorem dX7_fits_533 : decode cX7_fits 533 = .ok (.iand, 1) := by decide +kernel
theorem dX7_fits_534 : decode cX7_fits 534 = .ok (.bipush 8, 2) := by decide +kernel
theorem dX7_fits_536 : decode cX7_fits 536 = .ok (.imul, 1) := by decide +kernel
theorem dX7_fits_537 : decode cX7_fits 537 = .ok (.iload 13, 2) := by decide +kernel
theorem dX7_fits_539 : decode cX7_fits 539 = .ok (.iconst 3, 1) := by decide +kernel
theorem dX7_fits_540 : decode cX7_fits 540 = .ok (.ishr, 1) := by decide +kernel
theorem dX7_fits_541 : decode cX7_fits 541 = .ok (.bipush 7, 2) := by decide +kernel
theorem dX7_fits_543 : decode cX7_fits 543 = .ok (.iand, 1) := by decide +kernel
theorem dX7_fits_544 : decode cX7_fits 544 = .ok (.iadd, 1) := by decide +kernel
