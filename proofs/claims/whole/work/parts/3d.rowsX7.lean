theorem dX7_rest_366 : decode cX7_rest 366 = .ok (.aload_n 0, 1) := by decide +kernel
theorem dX7_rest_367 : decode cX7_rest 367 = .ok (.bipush 44, 2) := by decide +kernel
theorem dX7_rest_369 : decode cX7_rest 369 = .ok (.iconst 1, 1) := by decide +kernel
theorem dX7_rest_370 : decode cX7_rest 370 = .ok (.iconst 2, 1) := by decide +kernel
theorem dX7_rest_371 : decode cX7_rest 371 = .ok (.bipush 15, 2) := by decide +kernel
theorem dX7_rest_373 : decode cX7_rest 373 = .ok (.sipush 188, 3) := by decide +kernel
theorem dX7_rest_376 : decode cX7_rest 376 = .ok (.bipush 9, 2) := by decide +kernel
theorem dX7_rest_378 : decode cX7_rest 378 = .ok (.iconst 0, 1) := by decide +kernel
theorem dX7_rest_379 : decode cX7_rest 379 = .ok (.invokevirtual 46, 3) := by decide +kernel
theorem dX7_rest_382 : decode cX7_rest 382 = .ok (.aload_n 0, 1) := by decide +kernel
theorem dX7_rest_383 : decode cX7_rest 383 = .ok (.bipush 45, 2) := by decide +kernel
theorem dX7_rest_385 : decode cX7_rest 385 = .ok (.iconst 1, 1) := by decide +kernel
theorem dX7_rest_386 : decode cX7_rest 386 = .ok (.iconst 2, 1) := by decide +kernel
theorem dX7_rest_387 : decode cX7_rest 387 = .ok (.bipush 15, 2) := by decide +kernel
theorem dX7_rest_389 : decode cX7_rest 389 = .ok (.sipush 189, 3) := by decide +kernel
theorem dX7_rest_392 : decode cX7_rest 392 = .ok (.bipush 9, 2) := by decide +kernel
theorem dX7_rest_394 : decode cX7_rest 394 = .ok (.iconst 0, 1) := by decide +kernel
theorem dX7_rest_395 : decode cX7_rest 395 = .ok (.invokevirtual 46, 3) := by decide +kernel
theorem dX7_rest_398 : decode cX7_rest 398 = .ok (.aload_n 0, 1) := by decide +kernel
theorem dX7_rest_399 : decode cX7_rest 399 = .ok (.bipush 46, 2) := by decide +kernel
theorem dX7_rest_401 : decode cX7_rest 401 = .ok (.iconst 1, 1) := by decide +kernel
theorem dX7_rest_402 : decode cX7_rest 402 = .ok (.iconst 5, 1) := by decide +kernel
theorem dX7_rest_403 : decode cX7_rest 403 = .ok (.bipush 15, 2) := by decide +kernel
theorem dX7_rest_405 : decode cX7_rest 405 = .ok (.sipush 200, 3) := by decide +kernel
theorem dX7_rest_408 : decode cX7_rest 408 = .ok (.bipush 9, 2) := by decide +kernel
theorem dX7_rest_410 : decode cX7_rest 410 = .ok (.iconst 0, 1) := by decide +kernel
theorem dX7_rest_411 : decode cX7_rest 411 = .ok (.invokevirtual 46, 3) := by decide +kernel
theorem dX7_rest_414 : decode cX7_rest 414 = .ok (.aload_n 0, 1) := by decide +kernel
theorem dX7_rest_415 : decode cX7_rest 415 = .ok (.bipush 47, 2) := by decide +kernel
theorem dX7_rest_417 : decode cX7_rest 417 = .ok (.iconst 1, 1) := by decide +kernel
theorem dX7_rest_418 : decode cX7_rest 418 = .ok (.iconst 1, 1) := by decide +kernel
theorem dX7_rest_419 : decode cX7_rest 419 = .ok (.bipush 15, 2) := by decide +kernel
theorem dX7_rest_421 : decode cX7_rest 421 = .ok (.sipush 163, 3) := by decide +kernel
theorem dX7_rest_424 : decode cX7_rest 424 = .ok (.bipush 9, 2) := by decide +kernel
theorem dX7_rest_426 : decode cX7_rest 426 = .ok (.iconst 0, 1) := by decide +kernel
theorem dX7_rest_427 : decode cX7_rest 427 = .ok (.invokevirtual 46, 3) := by decide +kernel
theorem dX7_rest_430 : decode cX7_rest 430 = .ok (.aload_n 0, 1) := by decide +kernel
theorem dX7_rest_431 : decode cX7_rest 431 = .ok (.bipush 47, 2) := by decide +kernel
theorem dX7_rest_433 : decode cX7_rest 433 = .ok (.iconst 1, 1) := by decide +kernel
theorem dX7_rest_434 : decode cX7_rest 434 = .ok (.iconst 4, 1) := by decide +kernel
theorem dX7_rest_435 : decode cX7_rest 435 = .ok (.bipush 15, 2) := by decide +kernel
theorem dX7_rest_437 : decode cX7_rest 437 = .ok (.sipush 186, 3) := by decide +kernel
theorem dX7_rest_440 : decode cX7_rest 440 = .ok (.iconst 4, 1) := by decide +kernel
theorem dX7_rest_441 : decode cX7_rest 441 = .ok (.bipush 6, 2) := by decide +kernel
theorem dX7_rest_443 : decode cX7_rest 443 = .ok (.invokevirtual 46, 3) := by decide +kernel
theorem dX7_rest_446 : decode cX7_rest 446 = .ok (.aload_n 0, 1) := by decide +kernel
theorem dX7_rest_447 : decode cX7_rest 447 = .ok (.bipush 48, 2) := by decide +kernel
theorem dX7_rest_449 : decode cX7_rest 449 = .ok (.iconst 0, 1) := by decide +kernel
theorem dX7_rest_450 : decode cX7_rest 450 = .ok (.iconst 1, 1) := by decide +kernel
theorem dX7_rest_451 : decode cX7_rest 451 = .ok (.bipush 15, 2) := by decide +kernel
theorem dX7_rest_453 : decode cX7_rest 453 = .ok (.sipush 192, 3) := by decide +kernel
theorem dX7_rest_456 : decode cX7_rest 456 = .ok (.bipush 9, 2) := by decide +kernel
theorem dX7_rest_458 : decode cX7_rest 458 = .ok (.iconst 0, 1) := by decide +kernel
theorem dX7_rest_459 : decode cX7_rest 459 = .ok (.invokevirtual 46, 3) := by decide +kernel
theorem dX7_rest_462 : decode cX7_rest 462 = .ok (.aload_n 0, 1) := by decide +kernel
theorem dX7_rest_463 : decode cX7_rest 463 = .ok (.bipush 49, 2) := by decide +kernel
theorem dX7_rest_465 : decode cX7_rest 465 = .ok (.iconst 0, 1) := by decide +kernel
theorem dX7_rest_466 : decode cX7_rest 466 = .ok (.iconst 1, 1) := by decide +kernel
theorem dX7_rest_467 : decode cX7_rest 467 = .ok (.bipush 15, 2) := by decide +kernel
theorem dX7_rest_469 : decode cX7_rest 469 = .ok (.sipush 176, 3) := by decide +kernel
theorem dX7_rest_472 : decode cX7_rest 472 = .ok (.bipush 9, 2) := by decide +kernel
theorem dX7_rest_474 : decode cX7_rest 474 = .ok (.iconst 0, 1) := by decide +kernel
theorem dX7_rest_475 : decode cX7_rest 475 = .ok (.invokevirtual 46, 3) := by decide +kernel
theorem dX7_rest_478 : decode cX7_rest 478 = .ok (.iconst 0, 1) := by decide +kernel
theorem dX7_rest_479 : decode cX7_rest 479 = .ok (.istore_n 1, 1) := by decide +kernel
theorem dX7_rest_480 : decode cX7_rest 480 = .ok (.iload_n 1, 1) := by decide +kernel
theorem dX7_rest_481 : decode cX7_rest 481 = .ok (.iconst 4, 1) := by decide +kernel
theorem dX7_rest_482 : decode cX7_rest 482 = .ok (.if_icmp .ge 49, 3) := by decide +kernel
theorem dX7_rest_485 : decode cX7_rest 485 = .ok (.aload_n 0, 1) := by decide +kernel
theorem dX7_rest_486 : decode cX7_rest 486 = .ok (.bipush 50, 2) := by decide +kernel
theorem dX7_rest_488 : decode cX7_rest 488 = .ok (.iload_n 1, 1) := by decide +kernel
theorem dX7_rest_489 : decode cX7_rest 489 = .ok (.iadd, 1) := by decide +kernel
theorem dX7_rest_490 : decode cX7_rest 490 = .ok (.iconst 0, 1) := by decide +kernel
theorem dX7_rest_491 : decode cX7_rest 491 = .ok (.iconst 0, 1) := by decide +kernel
theorem dX7_rest_492 : decode cX7_rest 492 = .ok (.iload_n 1, 1) := by decide +kernel
theorem dX7_rest_493 : decode cX7_rest 493 = .ok (.iconst 2, 1) := by decide +kernel
theorem dX7_rest_494 : decode cX7_rest 494 = .ok (.if_icmp .ge 7, 3) := by decide +kernel
theorem dX7_rest_497 : decode cX7_rest 497 = .ok (.iconst 0, 1) := by decide +kernel
theorem dX7_rest_498 : decode cX7_rest 498 = .ok (.goto 6, 3) := by decide +kernel
theorem dX7_rest_501 : decode cX7_rest 501 = .ok (.sipush 243, 3) := by decide +kernel
theorem dX7_rest_504 : decode cX7_rest 504 = .ok (.iload_n 1, 1) := by decide +kernel
theorem dX7_rest_505 : decode cX7_rest 505 = .ok (.iconst 2, 1) := by decide +kernel
theorem dX7_rest_506 : decode cX7_rest 506 = .ok (.irem, 1) := by decide +kernel
theorem dX7_rest_507 : decode cX7_rest 507 = .ok (.ifCond .ne 9, 3) := by decide +kernel
theorem dX7_rest_510 : decode cX7_rest 510 = .ok (.sipush 164, 3) := by decide +kernel
theorem dX7_rest_513 : decode cX7_rest 513 = .ok (.goto 6, 3) := by decide +kernel
theorem dX7_rest_516 : decode cX7_rest 516 = .ok (.sipush 170, 3) := by decide +kernel
theorem dX7_rest_519 : decode cX7_rest 519 = .ok (.bipush 9, 2) := by decide +kernel
theorem dX7_rest_521 : decode cX7_rest 521 = .ok (.iconst 0, 1) := by decide +kernel
theorem dX7_rest_522 : decode cX7_rest 522 = .ok (.invokevirtual 46, 3) := by decide +kernel
theorem dX7_rest_525 : decode cX7_rest 525 = .ok (.iinc 1 1, 3) := by decide +kernel
theorem dX7_rest_528 : decode cX7_rest 528 = .ok (.goto (-48), 3) := by decide +kernel
theorem dX7_rest_531 : decode cX7_rest 531 = .ok (.return_, 1) := by decide +kernel
theorem dX7_add_0 : decode cX7_add 0 = .ok (.aload_n 0, 1) := by decide +kernel
theorem dX7_add_1 : decode cX7_add 1 = .ok (.getfield 7, 3) := by decide +kernel
theorem dX7_add_4 : decode cX7_add 4 = .ok (.aload_n 0, 1) := by decide +kernel
theorem dX7_add_5 : decode cX7_add 5 = .ok (.getfield 53, 3) := by decide +kernel
theorem dX7_add_8 : decode cX7_add 8 = .ok (.iload_n 1, 1) := by decide +kernel
theorem dX7_add_9 : decode cX7_add 9 = .ok (.iastore, 1) := by decide +kernel
theorem dX7_add_10 : decode cX7_add 10 = .ok (.aload_n 0, 1) := by decide +kernel
theorem dX7_add_11 : decode cX7_add 11 = .ok (.getfield 13, 3) := by decide +kernel
theorem dX7_add_14 : decode cX7_add 14 = .ok (.aload_n 0, 1) := by decide +kernel
theorem dX7_add_15 : decode cX7_add 15 = .ok (.getfield 53, 3) := by decide +kernel
theorem dX7_add_18 : decode cX7_add 18 = .ok (.iload_n 2, 1) := by decide +kernel
theorem dX7_add_19 : decode cX7_add 19 = .ok (.iastore, 1) := by decide +kernel
theorem dX7_add_20 : decode cX7_add 20 = .ok (.aload_n 0, 1) := by decide +kernel
theorem dX7_add_21 : decode cX7_add 21 = .ok (.getfield 16, 3) := by decide +kernel
theorem dX7_add_24 : decode cX7_add 24 = .ok (.aload_n 0, 1) := by decide +kernel
theorem dX7_add_25 : decode cX7_add 25 = .ok (.getfield 53, 3) := by decide +kernel
theorem dX7_add_28 : decode cX7_add 28 = .ok (.iload_n 3, 1) := by decide +kernel
theorem dX7_add_29 : decode cX7_add 29 = .ok (.iastore, 1) := by decide +kernel
theorem dX7_add_30 : decode cX7_add 30 = .ok (.aload_n 0, 1) := by decide +kernel
theorem dX7_add_31 : decode cX7_add 31 = .ok (.getfield 19, 3) := by decide +kernel
theorem dX7_add_34 : decode cX7_add 34 = .ok (.aload_n 0, 1) := by decide +kernel
theorem dX7_add_35 : decode cX7_add 35 = .ok (.getfield 53, 3) := by decide +kernel
theorem dX7_add_38 : decode cX7_add 38 = .ok (.iload 4, 2) := by decide +kernel
theorem dX7_add_40 : decode cX7_add 40 = .ok (.iastore, 1) := by decide +kernel
theorem dX7_add_41 : decode cX7_add 41 = .ok (.aload_n 0, 1) := by decide +kernel
theorem dX7_add_42 : decode cX7_add 42 = .ok (.getfield 22, 3) := by decide +kernel
theorem dX7_add_45 : decode cX7_add 45 = .ok (.aload_n 0, 1) := by decide +kernel
theorem dX7_add_46 : decode cX7_add 46 = .ok (.getfield 53, 3) := by decide +kernel
theorem dX7_add_49 : decode cX7_add 49 = .ok (.iload 5, 2) := by decide +kernel
theorem dX7_add_51 : decode cX7_add 51 = .ok (.iastore, 1) := by decide +kernel
theorem dX7_add_52 : decode cX7_add 52 = .ok (.aload_n 0, 1) := by decide +kernel
theorem dX7_add_53 : decode cX7_add 53 = .ok (.getfield 25, 3) := by decide +kernel
theorem dX7_add_56 : decode cX7_add 56 = .ok (.aload_n 0, 1) := by decide +kernel
theorem dX7_add_57 : decode cX7_add 57 = .ok (.getfield 53, 3) := by decide +kernel
theorem dX7_add_60 : decode cX7_add 60 = .ok (.iload 6, 2) := by decide +kernel
theorem dX7_add_62 : decode cX7_add 62 = .ok (.iastore, 1) := by decide +kernel
theorem dX7_add_63 : decode cX7_add 63 = .ok (.aload_n 0, 1) := by decide +kernel
theorem dX7_add_64 : decode cX7_add 64 = .ok (.getfield 28, 3) := by decide +kernel
theorem dX7_add_67 : decode cX7_add 67 = .ok (.aload_n 0, 1) := by decide +kernel
theorem dX7_add_68 : decode cX7_add 68 = .ok (.getfield 53, 3) := by decide +kernel
theorem dX7_add_71 : decode cX7_add 71 = .ok (.iload 7, 2) := by decide +kernel
theorem dX7_add_73 : decode cX7_add 73 = .ok (.iastore, 1) := by decide +kernel
theorem dX7_add_74 : decode cX7_add 74 = .ok (.aload_n 0, 1) := by decide +kernel
theorem dX7_add_75 : decode cX7_add 75 = .ok (.dup, 1) := by decide +kernel
theorem dX7_add_76 : decode cX7_add 76 = .ok (.getfield 53, 3) := by decide +kernel
theorem dX7_add_79 : decode cX7_add 79 = .ok (.iconst 1, 1) := by decide +kernel
theorem dX7_add_80 : decode cX7_add 80 = .ok (.iadd, 1) := by decide +kernel
theorem dX7_add_81 : decode cX7_add 81 = .ok (.putfield 53, 3) := by decide +kernel
theorem dX7_add_84 : decode cX7_add 84 = .ok (.return_, 1) := by decide +kernel
theorem dX7_thrown_0 : decode cX7_thrown 0 = .ok (.aload_n 0, 1) := by decide +kernel
theorem dX7_thrown_1 : decode cX7_thrown 1 = .ok (.getfield 57, 3) := by decide +kernel
theorem dX7_thrown_4 : decode cX7_thrown 4 = .ok (.ireturn, 1) := by decide +kernel
theorem dX7_op_0 : decode cX7_op 0 = .ok (.aload_n 0, 1) := by decide +kernel
theorem dX7_op_1 : decode cX7_op 1 = .ok (.iconst 0, 1) := by decide +kernel
theorem dX7_op_2 : decode cX7_op 2 = .ok (.putfield 57, 3) := by decide +kernel
theorem dX7_op_5 : decode cX7_op 5 = .ok (.aload_n 0, 1) := by decide +kernel
theorem dX7_op_6 : decode cX7_op 6 = .ok (.getfield 31, 3) := by decide +kernel
theorem dX7_op_9 : decode cX7_op 9 = .ok (.iconst 0, 1) := by decide +kernel
theorem dX7_op_10 : decode cX7_op 10 = .ok (.iload_n 1, 1) := by decide +kernel
theorem dX7_op_11 : decode cX7_op 11 = .ok (.iastore, 1) := by decide +kernel
theorem dX7_op_12 : decode cX7_op 12 = .ok (.aload_n 0, 1) := by decide +kernel
theorem dX7_op_13 : decode cX7_op 13 = .ok (.getfield 31, 3) := by decide +kernel
theorem dX7_op_16 : decode cX7_op 16 = .ok (.iconst 1, 1) := by decide +kernel
theorem dX7_op_17 : decode cX7_op 17 = .ok (.iload_n 2, 1) := by decide +kernel
theorem dX7_op_18 : decode cX7_op 18 = .ok (.iastore, 1) := by decide +kernel
theorem dX7_op_19 : decode cX7_op 19 = .ok (.aload_n 0, 1) := by decide +kernel
theorem dX7_op_20 : decode cX7_op 20 = .ok (.getfield 31, 3) := by decide +kernel
theorem dX7_op_23 : decode cX7_op 23 = .ok (.iconst 2, 1) := by decide +kernel
theorem dX7_op_24 : decode cX7_op 24 = .ok (.iload_n 3, 1) := by decide +kernel
theorem dX7_op_25 : decode cX7_op 25 = .ok (.iastore, 1) := by decide +kernel
theorem dX7_op_26 : decode cX7_op 26 = .ok (.iconst 3, 1) := by decide +kernel
theorem dX7_op_27 : decode cX7_op 27 = .ok (.istore 4, 2) := by decide +kernel
theorem dX7_op_29 : decode cX7_op 29 = .ok (.iload 4, 2) := by decide +kernel
theorem dX7_op_31 : decode cX7_op 31 = .ok (.bipush 9, 2) := by decide +kernel
theorem dX7_op_33 : decode cX7_op 33 = .ok (.if_icmp .ge 17, 3) := by decide +kernel
theorem dX7_op_36 : decode cX7_op 36 = .ok (.aload_n 0, 1) := by decide +kernel
theorem dX7_op_37 : decode cX7_op 37 = .ok (.getfield 31, 3) := by decide +kernel
theorem dX7_op_40 : decode cX7_op 40 = .ok (.iload 4, 2) := by decide +kernel
theorem dX7_op_42 : decode cX7_op 42 = .ok (.iconst 0, 1) := by decide +kernel
theorem dX7_op_43 : decode cX7_op 43 = .ok (.iastore, 1) := by decide +kernel
theorem dX7_op_44 : decode cX7_op 44 = .ok (.iinc 4 1, 3) := by decide +kernel
theorem dX7_op_47 : decode cX7_op 47 = .ok (.goto (-18), 3) := by decide +kernel
theorem dX7_op_50 : decode cX7_op 50 = .ok (.return_, 1) := by decide +kernel
theorem dX7_operand_0 : decode cX7_operand 0 = .ok (.aload_n 0, 1) := by decide +kernel
theorem dX7_operand_1 : decode cX7_operand 1 = .ok (.iconst 0, 1) := by decide +kernel
theorem dX7_operand_2 : decode cX7_operand 2 = .ok (.putfield 57, 3) := by decide +kernel
theorem dX7_operand_5 : decode cX7_operand 5 = .ok (.iload_n 1, 1) := by decide +kernel
theorem dX7_operand_6 : decode cX7_operand 6 = .ok (.ifCond .lt 36, 3) := by decide +kernel
theorem dX7_operand_9 : decode cX7_operand 9 = .ok (.iload_n 1, 1) := by decide +kernel
theorem dX7_operand_10 : decode cX7_operand 10 = .ok (.iconst 2, 1) := by decide +kernel
theorem dX7_operand_11 : decode cX7_operand 11 = .ok (.if_icmp .gt 31, 3) := by decide +kernel
theorem dX7_operand_14 : decode cX7_operand 14 = .ok (.iload_n 2, 1) := by decide +kernel
theorem dX7_operand_15 : decode cX7_operand 15 = .ok (.ifCond .lt 27, 3) := by decide +kernel
theorem dX7_operand_18 : decode cX7_operand 18 = .ok (.iload_n 2, 1) := by decide +kernel
theorem dX7_operand_19 : decode cX7_operand 19 = .ok (.iconst 3, 1) := by decide +kernel
theorem dX7_operand_20 : decode cX7_operand 20 = .ok (.if_icmp .gt 22, 3) := by decide +kernel
theorem dX7_operand_23 : decode cX7_operand 23 = .ok (.iload_n 3, 1) := by decide +kernel
theorem dX7_operand_24 : decode cX7_operand 24 = .ok (.ifCond .lt 18, 3) := by decide +kernel
theorem dX7_operand_27 : decode cX7_operand 27 = .ok (.iload_n 3, 1) := by decide +kernel
theorem dX7_operand_28 : decode cX7_operand 28 = .ok (.iload_n 2, 1) := by decide +kernel
theorem dX7_operand_29 : decode cX7_operand 29 = .ok (.iconst 1, 1) := by decide +kernel
theorem dX7_operand_30 : decode cX7_operand 30 = .ok (.if_icmp .ne 8, 3) := by decide +kernel
theorem dX7_operand_33 : decode cX7_operand 33 = .ok (.bipush 15, 2) := by decide +kernel
theorem dX7_operand_35 : decode cX7_operand 35 = .ok (.goto 4, 3) := by decide +kernel
theorem dX7_operand_38 : decode cX7_operand 38 = .ok (.iconst 0, 1) := by decide +kernel
theorem dX7_operand_39 : decode cX7_operand 39 = .ok (.if_icmp .le 5, 3) := by decide +kernel
theorem dX7_operand_42 : decode cX7_operand 42 = .ok (.iconst 0, 1) := by decide +kernel
