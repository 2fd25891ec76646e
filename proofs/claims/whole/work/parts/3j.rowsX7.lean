theorem dX7_tries_420 : decode cX7_tries 420 = .ok (.iload 5, 2) := by decide +kernel
theorem dX7_tries_422 : decode cX7_tries 422 = .ok (.ifCond .eq 33, 3) := by decide +kernel
theorem dX7_tries_425 : decode cX7_tries 425 = .ok (.aload_n 0, 1) := by decide +kernel
theorem dX7_tries_426 : decode cX7_tries 426 = .ok (.getfield 31, 3) := by decide +kernel
theorem dX7_tries_429 : decode cX7_tries 429 = .ok (.bipush 9, 2) := by decide +kernel
theorem dX7_tries_431 : decode cX7_tries 431 = .ok (.iaload, 1) := by decide +kernel
theorem dX7_tries_432 : decode cX7_tries 432 = .ok (.bipush 7, 2) := by decide +kernel
theorem dX7_tries_434 : decode cX7_tries 434 = .ok (.if_icmp .le 21, 3) := by decide +kernel
theorem dX7_tries_437 : decode cX7_tries 437 = .ok (.aload_n 0, 1) := by decide +kernel
theorem dX7_tries_438 : decode cX7_tries 438 = .ok (.getfield 31, 3) := by decide +kernel
theorem dX7_tries_441 : decode cX7_tries 441 = .ok (.bipush 9, 2) := by decide +kernel
theorem dX7_tries_443 : decode cX7_tries 443 = .ok (.iaload, 1) := by decide +kernel
theorem dX7_tries_444 : decode cX7_tries 444 = .ok (.bipush 16, 2) := by decide +kernel
theorem dX7_tries_446 : decode cX7_tries 446 = .ok (.if_icmp .ge 9, 3) := by decide +kernel
theorem dX7_tries_449 : decode cX7_tries 449 = .ok (.iload 7, 2) := by decide +kernel
theorem dX7_tries_451 : decode cX7_tries 451 = .ok (.iconst 1, 1) := by decide +kernel
theorem dX7_tries_452 : decode cX7_tries 452 = .ok (.ior, 1) := by decide +kernel
theorem dX7_tries_453 : decode cX7_tries 453 = .ok (.istore 7, 2) := by decide +kernel
theorem dX7_tries_455 : decode cX7_tries 455 = .ok (.iload 5, 2) := by decide +kernel
theorem dX7_tries_457 : decode cX7_tries 457 = .ok (.ifCond .eq 21, 3) := by decide +kernel
theorem dX7_tries_460 : decode cX7_tries 460 = .ok (.aload_n 0, 1) := by decide +kernel
theorem dX7_tries_461 : decode cX7_tries 461 = .ok (.getfield 31, 3) := by decide +kernel
theorem dX7_tries_464 : decode cX7_tries 464 = .ok (.bipush 10, 2) := by decide +kernel
theorem dX7_tries_466 : decode cX7_tries 466 = .ok (.iaload, 1) := by decide +kernel
theorem dX7_tries_467 : decode cX7_tries 467 = .ok (.bipush 7, 2) := by decide +kernel
theorem dX7_tries_469 : decode cX7_tries 469 = .ok (.if_icmp .le 9, 3) := by decide +kernel
theorem dX7_tries_472 : decode cX7_tries 472 = .ok (.iload 7, 2) := by decide +kernel
theorem dX7_tries_474 : decode cX7_tries 474 = .ok (.iconst 2, 1) := by decide +kernel
theorem dX7_tries_475 : decode cX7_tries 475 = .ok (.ior, 1) := by decide +kernel
theorem dX7_tries_476 : decode cX7_tries 476 = .ok (.istore 7, 2) := by decide +kernel
theorem dX7_tries_478 : decode cX7_tries 478 = .ok (.aload_n 0, 1) := by decide +kernel
theorem dX7_tries_479 : decode cX7_tries 479 = .ok (.iconst 0, 1) := by decide +kernel
theorem dX7_tries_480 : decode cX7_tries 480 = .ok (.putfield 77, 3) := by decide +kernel
theorem dX7_tries_483 : decode cX7_tries 483 = .ok (.aload_n 0, 1) := by decide +kernel
theorem dX7_tries_484 : decode cX7_tries 484 = .ok (.getfield 19, 3) := by decide +kernel
theorem dX7_tries_487 : decode cX7_tries 487 = .ok (.iload_n 1, 1) := by decide +kernel
theorem dX7_tries_488 : decode cX7_tries 488 = .ok (.iaload, 1) := by decide +kernel
theorem dX7_tries_489 : decode cX7_tries 489 = .ok (.sipush 243, 3) := by decide +kernel
theorem dX7_tries_492 : decode cX7_tries 492 = .ok (.if_icmp .ne 10, 3) := by decide +kernel
theorem dX7_tries_495 : decode cX7_tries 495 = .ok (.aload_n 0, 1) := by decide +kernel
theorem dX7_tries_496 : decode cX7_tries 496 = .ok (.sipush 243, 3) := by decide +kernel
theorem dX7_tries_499 : decode cX7_tries 499 = .ok (.invokevirtual 82, 3) := by decide +kernel
theorem dX7_tries_502 : decode cX7_tries 502 = .ok (.iload 6, 2) := by decide +kernel
theorem dX7_tries_504 : decode cX7_tries 504 = .ok (.ifCond .ne 8, 3) := by decide +kernel
theorem dX7_tries_507 : decode cX7_tries 507 = .ok (.iload 7, 2) := by decide +kernel
theorem dX7_tries_509 : decode cX7_tries 509 = .ok (.ifCond .le 12, 3) := by decide +kernel
theorem dX7_tries_512 : decode cX7_tries 512 = .ok (.aload_n 0, 1) := by decide +kernel
theorem dX7_tries_513 : decode cX7_tries 513 = .ok (.bipush 64, 2) := by decide +kernel
theorem dX7_tries_515 : decode cX7_tries 515 = .ok (.iload 7, 2) := by decide +kernel
theorem dX7_tries_517 : decode cX7_tries 517 = .ok (.iadd, 1) := by decide +kernel
theorem dX7_tries_518 : decode cX7_tries 518 = .ok (.invokevirtual 82, 3) := by decide +kernel
theorem dX7_tries_521 : decode cX7_tries 521 = .ok (.aload_n 0, 1) := by decide +kernel
theorem dX7_tries_522 : decode cX7_tries 522 = .ok (.getfield 19, 3) := by decide +kernel
theorem dX7_tries_525 : decode cX7_tries 525 = .ok (.iload_n 1, 1) := by decide +kernel
theorem dX7_tries_526 : decode cX7_tries 526 = .ok (.iaload, 1) := by decide +kernel
theorem dX7_tries_527 : decode cX7_tries 527 = .ok (.bipush 15, 2) := by decide +kernel
theorem dX7_tries_529 : decode cX7_tries 529 = .ok (.if_icmp .ne 9, 3) := by decide +kernel
theorem dX7_tries_532 : decode cX7_tries 532 = .ok (.aload_n 0, 1) := by decide +kernel
theorem dX7_tries_533 : decode cX7_tries 533 = .ok (.bipush 15, 2) := by decide +kernel
theorem dX7_tries_535 : decode cX7_tries 535 = .ok (.invokevirtual 82, 3) := by decide +kernel
theorem dX7_tries_538 : decode cX7_tries 538 = .ok (.aload_n 0, 1) := by decide +kernel
theorem dX7_tries_539 : decode cX7_tries 539 = .ok (.getfield 22, 3) := by decide +kernel
theorem dX7_tries_542 : decode cX7_tries 542 = .ok (.iload_n 1, 1) := by decide +kernel
theorem dX7_tries_543 : decode cX7_tries 543 = .ok (.iaload, 1) := by decide +kernel
theorem dX7_tries_544 : decode cX7_tries 544 = .ok (.aload_n 0, 1) := by decide +kernel
theorem dX7_tries_545 : decode cX7_tries 545 = .ok (.getfield 13, 3) := by decide +kernel
theorem dX7_tries_548 : decode cX7_tries 548 = .ok (.iload_n 1, 1) := by decide +kernel
theorem dX7_tries_549 : decode cX7_tries 549 = .ok (.iaload, 1) := by decide +kernel
theorem dX7_tries_550 : decode cX7_tries 550 = .ok (.ifCond .ne 12, 3) := by decide +kernel
theorem dX7_tries_553 : decode cX7_tries 553 = .ok (.iload_n 2, 1) := by decide +kernel
theorem dX7_tries_554 : decode cX7_tries 554 = .ok (.iconst 1, 1) := by decide +kernel
theorem dX7_tries_555 : decode cX7_tries 555 = .ok (.if_icmp .eq 7, 3) := by decide +kernel
theorem dX7_tries_558 : decode cX7_tries 558 = .ok (.iconst 1, 1) := by decide +kernel
theorem dX7_tries_559 : decode cX7_tries 559 = .ok (.goto 4, 3) := by decide +kernel
theorem dX7_tries_562 : decode cX7_tries 562 = .ok (.iconst 0, 1) := by decide +kernel
theorem dX7_tries_563 : decode cX7_tries 563 = .ok (.iadd, 1) := by decide +kernel
theorem dX7_tries_564 : decode cX7_tries 564 = .ok (.aload_n 0, 1) := by decide +kernel
theorem dX7_tries_565 : decode cX7_tries 565 = .ok (.getfield 7, 3) := by decide +kernel
theorem dX7_tries_568 : decode cX7_tries 568 = .ok (.iload_n 1, 1) := by decide +kernel
theorem dX7_tries_569 : decode cX7_tries 569 = .ok (.iaload, 1) := by decide +kernel
theorem dX7_tries_570 : decode cX7_tries 570 = .ok (.invokestatic 94, 3) := by decide +kernel
theorem dX7_tries_573 : decode cX7_tries 573 = .ok (.ifCond .eq 12, 3) := by decide +kernel
theorem dX7_tries_576 : decode cX7_tries 576 = .ok (.aload_n 0, 1) := by decide +kernel
theorem dX7_tries_577 : decode cX7_tries 577 = .ok (.getfield 31, 3) := by decide +kernel
theorem dX7_tries_580 : decode cX7_tries 580 = .ok (.iconst 2, 1) := by decide +kernel
theorem dX7_tries_581 : decode cX7_tries 581 = .ok (.iaload, 1) := by decide +kernel
theorem dX7_tries_582 : decode cX7_tries 582 = .ok (.goto 4, 3) := by decide +kernel
theorem dX7_tries_585 : decode cX7_tries 585 = .ok (.iconst 0, 1) := by decide +kernel
theorem dX7_tries_586 : decode cX7_tries 586 = .ok (.iadd, 1) := by decide +kernel
theorem dX7_tries_587 : decode cX7_tries 587 = .ok (.istore 10, 2) := by decide +kernel
theorem dX7_tries_589 : decode cX7_tries 589 = .ok (.aload_n 0, 1) := by decide +kernel
theorem dX7_tries_590 : decode cX7_tries 590 = .ok (.iload_n 3, 1) := by decide +kernel
theorem dX7_tries_591 : decode cX7_tries 591 = .ok (.iconst 5, 1) := by decide +kernel
theorem dX7_tries_592 : decode cX7_tries 592 = .ok (.if_icmp .eq 9, 3) := by decide +kernel
theorem dX7_tries_595 : decode cX7_tries 595 = .ok (.iload_n 3, 1) := by decide +kernel
theorem dX7_tries_596 : decode cX7_tries 596 = .ok (.bipush 6, 2) := by decide +kernel
theorem dX7_tries_598 : decode cX7_tries 598 = .ok (.if_icmp .ne 11, 3) := by decide +kernel
theorem dX7_tries_601 : decode cX7_tries 601 = .ok (.iload 10, 2) := by decide +kernel
theorem dX7_tries_603 : decode cX7_tries 603 = .ok (.iload 9, 2) := by decide +kernel
theorem dX7_tries_605 : decode cX7_tries 605 = .ok (.iadd, 1) := by decide +kernel
theorem dX7_tries_606 : decode cX7_tries 606 = .ok (.goto 5, 3) := by decide +kernel
theorem dX7_tries_609 : decode cX7_tries 609 = .ok (.iload 10, 2) := by decide +kernel
theorem dX7_tries_611 : decode cX7_tries 611 = .ok (.invokevirtual 82, 3) := by decide +kernel
theorem dX7_tries_614 : decode cX7_tries 614 = .ok (.iload_n 3, 1) := by decide +kernel
theorem dX7_tries_615 : decode cX7_tries 615 = .ok (.invokestatic 110, 3) := by decide +kernel
theorem dX7_tries_618 : decode cX7_tries 618 = .ok (.ifCond .eq 17, 3) := by decide +kernel
theorem dX7_tries_621 : decode cX7_tries 621 = .ok (.iload 5, 2) := by decide +kernel
theorem dX7_tries_623 : decode cX7_tries 623 = .ok (.ifCond .eq 12, 3) := by decide +kernel
theorem dX7_tries_626 : decode cX7_tries 626 = .ok (.aload_n 0, 1) := by decide +kernel
theorem dX7_tries_627 : decode cX7_tries 627 = .ok (.iload 8, 2) := by decide +kernel
theorem dX7_tries_629 : decode cX7_tries 629 = .ok (.invokevirtual 113, 3) := by decide +kernel
theorem dX7_tries_632 : decode cX7_tries 632 = .ok (.goto 26, 3) := by decide +kernel
theorem dX7_tries_635 : decode cX7_tries 635 = .ok (.iload_n 3, 1) := by decide +kernel
theorem dX7_tries_636 : decode cX7_tries 636 = .ok (.invokestatic 110, 3) := by decide +kernel
theorem dX7_tries_639 : decode cX7_tries 639 = .ok (.ifCond .eq 19, 3) := by decide +kernel
theorem dX7_tries_642 : decode cX7_tries 642 = .ok (.aload_n 0, 1) := by decide +kernel
theorem dX7_tries_643 : decode cX7_tries 643 = .ok (.sipush 192, 3) := by decide +kernel
theorem dX7_tries_646 : decode cX7_tries 646 = .ok (.bipush 8, 2) := by decide +kernel
theorem dX7_tries_648 : decode cX7_tries 648 = .ok (.iload 8, 2) := by decide +kernel
theorem dX7_tries_650 : decode cX7_tries 650 = .ok (.imul, 1) := by decide +kernel
theorem dX7_tries_651 : decode cX7_tries 651 = .ok (.iadd, 1) := by decide +kernel
theorem dX7_tries_652 : decode cX7_tries 652 = .ok (.iload 9, 2) := by decide +kernel
theorem dX7_tries_654 : decode cX7_tries 654 = .ok (.iadd, 1) := by decide +kernel
theorem dX7_tries_655 : decode cX7_tries 655 = .ok (.invokevirtual 82, 3) := by decide +kernel
theorem dX7_tries_658 : decode cX7_tries 658 = .ok (.aload_n 0, 1) := by decide +kernel
theorem dX7_tries_659 : decode cX7_tries 659 = .ok (.aload_n 0, 1) := by decide +kernel
theorem dX7_tries_660 : decode cX7_tries 660 = .ok (.getfield 60, 3) := by decide +kernel
theorem dX7_tries_663 : decode cX7_tries 663 = .ok (.aload_n 0, 1) := by decide +kernel
theorem dX7_tries_664 : decode cX7_tries 664 = .ok (.getfield 28, 3) := by decide +kernel
theorem dX7_tries_667 : decode cX7_tries 667 = .ok (.iload_n 1, 1) := by decide +kernel
theorem dX7_tries_668 : decode cX7_tries 668 = .ok (.iaload, 1) := by decide +kernel
theorem dX7_tries_669 : decode cX7_tries 669 = .ok (.iload_n 2, 1) := by decide +kernel
theorem dX7_tries_670 : decode cX7_tries 670 = .ok (.invokestatic 64, 3) := by decide +kernel
theorem dX7_tries_673 : decode cX7_tries 673 = .ok (.invokevirtual 86, 3) := by decide +kernel
theorem dX7_tries_676 : decode cX7_tries 676 = .ok (.iconst 1, 1) := by decide +kernel
theorem dX7_tries_677 : decode cX7_tries 677 = .ok (.ireturn, 1) := by decide +kernel
set_option maxRecDepth 20000 in
theorem ggX7_encode_X7_tries : GoodIn wsX7_encode wsX7_tries := goodIn_r _ [11, 12, 13, 14, 15, 16, 2, 17, 18, 19, 20, 21, 22, 10, 23, 24, 25, 26, 27, 28, 29, 30, 31, 32, 33, 34, 35, 36, 37, 38, 39, 40, 41, 42, 43, 44, 45, 46, 47, 48, 49, 50, 51, 52, 4, 53, 54, 55, 56, 57, 58, 59, 60, 61, 62, 63, 64, 65, 66, 67, 68, 69, 70, 71, 72, 73, 74, 75, 76, 77, 78, 79, 80, 81, 82, 83, 84, 85, 86, 87] rfl (by decide +kernel)
set_option maxRecDepth 20000 in
theorem gX7_encode_X7_tries : GoodIn wsX7_encode (wsV RX7 116 RX7 yX7_tries wsX7_tries) := goodIn_app (goodIn_of _ (by decide +kernel)) ggX7_encode_X7_tries
theorem dX7_encode_0 : decode cX7_encode 0 = .ok (.iconst 0, 1) := by decide +kernel
theorem dX7_encode_1 : decode cX7_encode 1 = .ok (.istore_n 1, 1) := by decide +kernel
theorem dX7_encode_2 : decode cX7_encode 2 = .ok (.iconst 0, 1) := by decide +kernel
theorem dX7_encode_3 : decode cX7_encode 3 = .ok (.istore_n 2, 1) := by decide +kernel
theorem dX7_encode_4 : decode cX7_encode 4 = .ok (.iload_n 2, 1) := by decide +kernel
theorem dX7_encode_5 : decode cX7_encode 5 = .ok (.aload_n 0, 1) := by decide +kernel
theorem dX7_encode_6 : decode cX7_encode 6 = .ok (.getfield 53, 3) := by decide +kernel
theorem dX7_encode_9 : decode cX7_encode 9 = .ok (.if_icmp .ge 65, 3) := by decide +kernel
theorem dX7_encode_12 : decode cX7_encode 12 = .ok (.aload_n 0, 1) := by decide +kernel
theorem dX7_encode_13 : decode cX7_encode 13 = .ok (.iload_n 2, 1) := by decide +kernel
theorem dX7_encode_14 : decode cX7_encode 14 = .ok (.invokevirtual 116, 3) := by decide +kernel
theorem dX7_encode_17 : decode cX7_encode 17 = .ok (.ifCond .eq 51, 3) := by decide +kernel
theorem dX7_encode_20 : decode cX7_encode 20 = .ok (.iload_n 1, 1) := by decide +kernel
theorem dX7_encode_21 : decode cX7_encode 21 = .ok (.ifCond .le 14, 3) := by decide +kernel
theorem dX7_encode_24 : decode cX7_encode 24 = .ok (.aload_n 0, 1) := by decide +kernel
theorem dX7_encode_25 : decode cX7_encode 25 = .ok (.getfield 77, 3) := by decide +kernel
theorem dX7_encode_28 : decode cX7_encode 28 = .ok (.iload_n 1, 1) := by decide +kernel
theorem dX7_encode_29 : decode cX7_encode 29 = .ok (.if_icmp .lt 6, 3) := by decide +kernel
theorem dX7_encode_32 : decode cX7_encode 32 = .ok (.goto 36, 3) := by decide +kernel
theorem dX7_encode_35 : decode cX7_encode 35 = .ok (.aload_n 0, 1) := by decide +kernel
theorem dX7_encode_36 : decode cX7_encode 36 = .ok (.getfield 77, 3) := by decide +kernel
theorem dX7_encode_39 : decode cX7_encode 39 = .ok (.istore_n 1, 1) := by decide +kernel
theorem dX7_encode_40 : decode cX7_encode 40 = .ok (.iconst 0, 1) := by decide +kernel
theorem dX7_encode_41 : decode cX7_encode 41 = .ok (.istore_n 3, 1) := by decide +kernel
theorem dX7_encode_42 : decode cX7_encode 42 = .ok (.iload_n 3, 1) := by decide +kernel
theorem dX7_encode_43 : decode cX7_encode 43 = .ok (.aload_n 0, 1) := by decide +kernel
theorem dX7_encode_44 : decode cX7_encode 44 = .ok (.getfield 77, 3) := by decide +kernel
theorem dX7_encode_47 : decode cX7_encode 47 = .ok (.if_icmp .ge 21, 3) := by decide +kernel
theorem dX7_encode_50 : decode cX7_encode 50 = .ok (.aload_n 0, 1) := by decide +kernel
theorem dX7_encode_51 : decode cX7_encode 51 = .ok (.getfield 37, 3) := by decide +kernel
theorem dX7_encode_54 : decode cX7_encode 54 = .ok (.iload_n 3, 1) := by decide +kernel
theorem dX7_encode_55 : decode cX7_encode 55 = .ok (.aload_n 0, 1) := by decide +kernel
theorem dX7_encode_56 : decode cX7_encode 56 = .ok (.getfield 40, 3) := by decide +kernel
theorem dX7_encode_59 : decode cX7_encode 59 = .ok (.iload_n 3, 1) := by decide +kernel
theorem dX7_encode_60 : decode cX7_encode 60 = .ok (.iaload, 1) := by decide +kernel
theorem dX7_encode_61 : decode cX7_encode 61 = .ok (.iastore, 1) := by decide +kernel
theorem dX7_encode_62 : decode cX7_encode 62 = .ok (.iinc 3 1, 3) := by decide +kernel
theorem dX7_encode_65 : decode cX7_encode 65 = .ok (.goto (-23), 3) := by decide +kernel
theorem dX7_encode_68 : decode cX7_encode 68 = .ok (.iinc 2 1, 3) := by decide +kernel
theorem dX7_encode_71 : decode cX7_encode 71 = .ok (.goto (-67), 3) := by decide +kernel
theorem dX7_encode_74 : decode cX7_encode 74 = .ok (.aload_n 0, 1) := by decide +kernel
theorem dX7_encode_75 : decode cX7_encode 75 = .ok (.iload_n 1, 1) := by decide +kernel
theorem dX7_encode_76 : decode cX7_encode 76 = .ok (.ifCond .le 7, 3) := by decide +kernel
theorem dX7_encode_79 : decode cX7_encode 79 = .ok (.iconst 0, 1) := by decide +kernel
theorem dX7_encode_80 : decode cX7_encode 80 = .ok (.goto 4, 3) := by decide +kernel
theorem dX7_encode_83 : decode cX7_encode 83 = .ok (.iconst 1, 1) := by decide +kernel
theorem dX7_encode_84 : decode cX7_encode 84 = .ok (.putfield 57, 3) := by decide +kernel
theorem dX7_encode_87 : decode cX7_encode 87 = .ok (.aload_n 0, 1) := by decide +kernel
theorem dX7_encode_88 : decode cX7_encode 88 = .ok (.iload_n 1, 1) := by decide +kernel
theorem dX7_encode_89 : decode cX7_encode 89 = .ok (.ifCond .le 7, 3) := by decide +kernel
theorem dX7_encode_92 : decode cX7_encode 92 = .ok (.iload_n 1, 1) := by decide +kernel
theorem dX7_encode_93 : decode cX7_encode 93 = .ok (.goto 7, 3) := by decide +kernel
theorem dX7_encode_96 : decode cX7_encode 96 = .ok (.aload_n 0, 1) := by decide +kernel
theorem dX7_encode_97 : decode cX7_encode 97 = .ok (.getfield 119, 3) := by decide +kernel
theorem dX7_encode_100 : decode cX7_encode 100 = .ok (.putfield 119, 3) := by decide +kernel
theorem dX7_encode_103 : decode cX7_encode 103 = .ok (.iload_n 1, 1) := by decide +kernel
theorem dX7_encode_104 : decode cX7_encode 104 = .ok (.ireturn, 1) := by decide +kernel
theorem dX7_octet_0 : decode cX7_octet 0 = .ok (.aload_n 0, 1) := by decide +kernel
theorem dX7_octet_1 : decode cX7_octet 1 = .ok (.iconst 0, 1) := by decide +kernel
theorem dX7_octet_2 : decode cX7_octet 2 = .ok (.putfield 57, 3) := by decide +kernel
theorem dX7_octet_5 : decode cX7_octet 5 = .ok (.iload_n 1, 1) := by decide +kernel
theorem dX7_octet_6 : decode cX7_octet 6 = .ok (.ifCond .lt 20, 3) := by decide +kernel
