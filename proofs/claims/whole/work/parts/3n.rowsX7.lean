theorem dX7_fits_545 : decode cX7_fits 545 = .ok (.goto 36, 3) := by decide +kernel
theorem dX7_fits_548 : decode cX7_fits 548 = .ok (.iload 15, 2) := by decide +kernel
theorem dX7_fits_550 : decode cX7_fits 550 = .ok (.iconst 5, 1) := by decide +kernel
theorem dX7_fits_551 : decode cX7_fits 551 = .ok (.if_icmp .ne 18, 3) := by decide +kernel
theorem dX7_fits_554 : decode cX7_fits 554 = .ok (.aload_n 0, 1) := by decide +kernel
theorem dX7_fits_555 : decode cX7_fits 555 = .ok (.getfield 136, 3) := by decide +kernel
theorem dX7_fits_558 : decode cX7_fits 558 = .ok (.iconst 1, 1) := by decide +kernel
theorem dX7_fits_559 : decode cX7_fits 559 = .ok (.iand, 1) := by decide +kernel
theorem dX7_fits_560 : decode cX7_fits 560 = .ok (.bipush 8, 2) := by decide +kernel
theorem dX7_fits_562 : decode cX7_fits 562 = .ok (.imul, 1) := by decide +kernel
theorem dX7_fits_563 : decode cX7_fits 563 = .ok (.iload 6, 2) := by decide +kernel
theorem dX7_fits_565 : decode cX7_fits 565 = .ok (.iadd, 1) := by decide +kernel
theorem dX7_fits_566 : decode cX7_fits 566 = .ok (.goto 15, 3) := by decide +kernel
theorem dX7_fits_569 : decode cX7_fits 569 = .ok (.iload 15, 2) := by decide +kernel
theorem dX7_fits_571 : decode cX7_fits 571 = .ok (.bipush 8, 2) := by decide +kernel
theorem dX7_fits_573 : decode cX7_fits 573 = .ok (.if_icmp .ne 7, 3) := by decide +kernel
theorem dX7_fits_576 : decode cX7_fits 576 = .ok (.iconst 1, 1) := by decide +kernel
theorem dX7_fits_577 : decode cX7_fits 577 = .ok (.goto 4, 3) := by decide +kernel
theorem dX7_fits_580 : decode cX7_fits 580 = .ok (.iconst 0, 1) := by decide +kernel
theorem dX7_fits_581 : decode cX7_fits 581 = .ok (.istore 16, 2) := by decide +kernel
theorem dX7_fits_583 : decode cX7_fits 583 = .ok (.iload 15, 2) := by decide +kernel
theorem dX7_fits_585 : decode cX7_fits 585 = .ok (.iconst 1, 1) := by decide +kernel
theorem dX7_fits_586 : decode cX7_fits 586 = .ok (.if_icmp .eq 22, 3) := by decide +kernel
theorem dX7_fits_589 : decode cX7_fits 589 = .ok (.iload 15, 2) := by decide +kernel
theorem dX7_fits_591 : decode cX7_fits 591 = .ok (.iconst 4, 1) := by decide +kernel
theorem dX7_fits_592 : decode cX7_fits 592 = .ok (.if_icmp .eq 16, 3) := by decide +kernel
theorem dX7_fits_595 : decode cX7_fits 595 = .ok (.iload 15, 2) := by decide +kernel
theorem dX7_fits_597 : decode cX7_fits 597 = .ok (.iconst 5, 1) := by decide +kernel
theorem dX7_fits_598 : decode cX7_fits 598 = .ok (.if_icmp .eq 10, 3) := by decide +kernel
theorem dX7_fits_601 : decode cX7_fits 601 = .ok (.iload 15, 2) := by decide +kernel
theorem dX7_fits_603 : decode cX7_fits 603 = .ok (.bipush 8, 2) := by decide +kernel
theorem dX7_fits_605 : decode cX7_fits 605 = .ok (.if_icmp .ne 7, 3) := by decide +kernel
theorem dX7_fits_608 : decode cX7_fits 608 = .ok (.iconst 1, 1) := by decide +kernel
theorem dX7_fits_609 : decode cX7_fits 609 = .ok (.goto 4, 3) := by decide +kernel
theorem dX7_fits_612 : decode cX7_fits 612 = .ok (.iconst 0, 1) := by decide +kernel
theorem dX7_fits_613 : decode cX7_fits 613 = .ok (.istore 17, 2) := by decide +kernel
theorem dX7_fits_615 : decode cX7_fits 615 = .ok (.iload 17, 2) := by decide +kernel
theorem dX7_fits_617 : decode cX7_fits 617 = .ok (.ifCond .eq 15, 3) := by decide +kernel
theorem dX7_fits_620 : decode cX7_fits 620 = .ok (.aload_n 0, 1) := by decide +kernel
theorem dX7_fits_621 : decode cX7_fits 621 = .ok (.getfield 34, 3) := by decide +kernel
theorem dX7_fits_624 : decode cX7_fits 624 = .ok (.iconst 3, 1) := by decide +kernel
theorem dX7_fits_625 : decode cX7_fits 625 = .ok (.iconst 2, 1) := by decide +kernel
theorem dX7_fits_626 : decode cX7_fits 626 = .ok (.iload 14, 2) := by decide +kernel
theorem dX7_fits_628 : decode cX7_fits 628 = .ok (.imul, 1) := by decide +kernel
theorem dX7_fits_629 : decode cX7_fits 629 = .ok (.iadd, 1) := by decide +kernel
theorem dX7_fits_630 : decode cX7_fits 630 = .ok (.iconst 1, 1) := by decide +kernel
theorem dX7_fits_631 : decode cX7_fits 631 = .ok (.iastore, 1) := by decide +kernel
theorem dX7_fits_632 : decode cX7_fits 632 = .ok (.iload 17, 2) := by decide +kernel
theorem dX7_fits_634 : decode cX7_fits 634 = .ok (.ifCond .eq 16, 3) := by decide +kernel
theorem dX7_fits_637 : decode cX7_fits 637 = .ok (.aload_n 0, 1) := by decide +kernel
theorem dX7_fits_638 : decode cX7_fits 638 = .ok (.getfield 34, 3) := by decide +kernel
theorem dX7_fits_641 : decode cX7_fits 641 = .ok (.iconst 4, 1) := by decide +kernel
theorem dX7_fits_642 : decode cX7_fits 642 = .ok (.iconst 2, 1) := by decide +kernel
theorem dX7_fits_643 : decode cX7_fits 643 = .ok (.iload 14, 2) := by decide +kernel
theorem dX7_fits_645 : decode cX7_fits 645 = .ok (.imul, 1) := by decide +kernel
theorem dX7_fits_646 : decode cX7_fits 646 = .ok (.iadd, 1) := by decide +kernel
theorem dX7_fits_647 : decode cX7_fits 647 = .ok (.iload 16, 2) := by decide +kernel
theorem dX7_fits_649 : decode cX7_fits 649 = .ok (.iastore, 1) := by decide +kernel
theorem dX7_fits_650 : decode cX7_fits 650 = .ok (.iload 15, 2) := by decide +kernel
theorem dX7_fits_652 : decode cX7_fits 652 = .ok (.iconst 1, 1) := by decide +kernel
theorem dX7_fits_653 : decode cX7_fits 653 = .ok (.if_icmp .eq 9, 3) := by decide +kernel
theorem dX7_fits_656 : decode cX7_fits 656 = .ok (.iload 15, 2) := by decide +kernel
theorem dX7_fits_658 : decode cX7_fits 658 = .ok (.iconst 5, 1) := by decide +kernel
theorem dX7_fits_659 : decode cX7_fits 659 = .ok (.if_icmp .ne 27, 3) := by decide +kernel
theorem dX7_fits_662 : decode cX7_fits 662 = .ok (.iload 12, 2) := by decide +kernel
theorem dX7_fits_664 : decode cX7_fits 664 = .ok (.iconst 1, 1) := by decide +kernel
theorem dX7_fits_665 : decode cX7_fits 665 = .ok (.if_icmp .ne 21, 3) := by decide +kernel
theorem dX7_fits_668 : decode cX7_fits 668 = .ok (.aload_n 0, 1) := by decide +kernel
theorem dX7_fits_669 : decode cX7_fits 669 = .ok (.getfield 139, 3) := by decide +kernel
theorem dX7_fits_672 : decode cX7_fits 672 = .ok (.ifCond .ne 14, 3) := by decide +kernel
theorem dX7_fits_675 : decode cX7_fits 675 = .ok (.iload 16, 2) := by decide +kernel
theorem dX7_fits_677 : decode cX7_fits 677 = .ok (.iconst 3, 1) := by decide +kernel
theorem dX7_fits_678 : decode cX7_fits 678 = .ok (.if_icmp .le 8, 3) := by decide +kernel
theorem dX7_fits_681 : decode cX7_fits 681 = .ok (.aload_n 0, 1) := by decide +kernel
theorem dX7_fits_682 : decode cX7_fits 682 = .ok (.iconst 1, 1) := by decide +kernel
theorem dX7_fits_683 : decode cX7_fits 683 = .ok (.putfield 125, 3) := by decide +kernel
theorem dX7_fits_686 : decode cX7_fits 686 = .ok (.iload 15, 2) := by decide +kernel
theorem dX7_fits_688 : decode cX7_fits 688 = .ok (.iconst 2, 1) := by decide +kernel
theorem dX7_fits_689 : decode cX7_fits 689 = .ok (.if_icmp .eq 10, 3) := by decide +kernel
theorem dX7_fits_692 : decode cX7_fits 692 = .ok (.iload 15, 2) := by decide +kernel
theorem dX7_fits_694 : decode cX7_fits 694 = .ok (.bipush 6, 2) := by decide +kernel
theorem dX7_fits_696 : decode cX7_fits 696 = .ok (.if_icmp .ne 20, 3) := by decide +kernel
theorem dX7_fits_699 : decode cX7_fits 699 = .ok (.aload_n 0, 1) := by decide +kernel
theorem dX7_fits_700 : decode cX7_fits 700 = .ok (.iload 13, 2) := by decide +kernel
theorem dX7_fits_702 : decode cX7_fits 702 = .ok (.iload 14, 2) := by decide +kernel
theorem dX7_fits_704 : decode cX7_fits 704 = .ok (.aload_n 0, 1) := by decide +kernel
theorem dX7_fits_705 : decode cX7_fits 705 = .ok (.iload_n 1, 1) := by decide +kernel
theorem dX7_fits_706 : decode cX7_fits 706 = .ok (.iload 15, 2) := by decide +kernel
theorem dX7_fits_708 : decode cX7_fits 708 = .ok (.iload 12, 2) := by decide +kernel
theorem dX7_fits_710 : decode cX7_fits 710 = .ok (.invokevirtual 102, 3) := by decide +kernel
theorem dX7_fits_713 : decode cX7_fits 713 = .ok (.invokevirtual 149, 3) := by decide +kernel
theorem dX7_fits_716 : decode cX7_fits 716 = .ok (.iload 15, 2) := by decide +kernel
theorem dX7_fits_718 : decode cX7_fits 718 = .ok (.iconst 3, 1) := by decide +kernel
theorem dX7_fits_719 : decode cX7_fits 719 = .ok (.if_icmp .eq 10, 3) := by decide +kernel
theorem dX7_fits_722 : decode cX7_fits 722 = .ok (.iload 15, 2) := by decide +kernel
theorem dX7_fits_724 : decode cX7_fits 724 = .ok (.bipush 7, 2) := by decide +kernel
theorem dX7_fits_726 : decode cX7_fits 726 = .ok (.if_icmp .ne 15, 3) := by decide +kernel
theorem dX7_fits_729 : decode cX7_fits 729 = .ok (.aload_n 0, 1) := by decide +kernel
theorem dX7_fits_730 : decode cX7_fits 730 = .ok (.getfield 34, 3) := by decide +kernel
theorem dX7_fits_733 : decode cX7_fits 733 = .ok (.iconst 3, 1) := by decide +kernel
theorem dX7_fits_734 : decode cX7_fits 734 = .ok (.iconst 2, 1) := by decide +kernel
theorem dX7_fits_735 : decode cX7_fits 735 = .ok (.iload 14, 2) := by decide +kernel
theorem dX7_fits_737 : decode cX7_fits 737 = .ok (.imul, 1) := by decide +kernel
theorem dX7_fits_738 : decode cX7_fits 738 = .ok (.iadd, 1) := by decide +kernel
theorem dX7_fits_739 : decode cX7_fits 739 = .ok (.iconst 3, 1) := by decide +kernel
theorem dX7_fits_740 : decode cX7_fits 740 = .ok (.iastore, 1) := by decide +kernel
theorem dX7_fits_741 : decode cX7_fits 741 = .ok (.iload 15, 2) := by decide +kernel
theorem dX7_fits_743 : decode cX7_fits 743 = .ok (.bipush 7, 2) := by decide +kernel
theorem dX7_fits_745 : decode cX7_fits 745 = .ok (.if_icmp .ne 8, 3) := by decide +kernel
theorem dX7_fits_748 : decode cX7_fits 748 = .ok (.aload_n 0, 1) := by decide +kernel
theorem dX7_fits_749 : decode cX7_fits 749 = .ok (.lconst 1, 1) := by decide +kernel
theorem dX7_fits_750 : decode cX7_fits 750 = .ok (.putfield 146, 3) := by decide +kernel
theorem dX7_fits_753 : decode cX7_fits 753 = .ok (.iinc 14 1, 3) := by decide +kernel
theorem dX7_fits_756 : decode cX7_fits 756 = .ok (.goto (-251), 3) := by decide +kernel
theorem dX7_fits_759 : decode cX7_fits 759 = .ok (.aload_n 0, 1) := by decide +kernel
theorem dX7_fits_760 : decode cX7_fits 760 = .ok (.getfield 28, 3) := by decide +kernel
theorem dX7_fits_763 : decode cX7_fits 763 = .ok (.iload_n 1, 1) := by decide +kernel
theorem dX7_fits_764 : decode cX7_fits 764 = .ok (.iaload, 1) := by decide +kernel
theorem dX7_fits_765 : decode cX7_fits 765 = .ok (.iload 12, 2) := by decide +kernel
theorem dX7_fits_767 : decode cX7_fits 767 = .ok (.invokestatic 64, 3) := by decide +kernel
theorem dX7_fits_770 : decode cX7_fits 770 = .ok (.istore 14, 2) := by decide +kernel
theorem dX7_fits_772 : decode cX7_fits 772 = .ok (.iload 14, 2) := by decide +kernel
theorem dX7_fits_774 : decode cX7_fits 774 = .ok (.ifCond .le 13, 3) := by decide +kernel
theorem dX7_fits_777 : decode cX7_fits 777 = .ok (.aload_n 0, 1) := by decide +kernel
theorem dX7_fits_778 : decode cX7_fits 778 = .ok (.aload_n 0, 1) := by decide +kernel
theorem dX7_fits_779 : decode cX7_fits 779 = .ok (.iload 14, 2) := by decide +kernel
theorem dX7_fits_781 : decode cX7_fits 781 = .ok (.invokevirtual 142, 3) := by decide +kernel
theorem dX7_fits_784 : decode cX7_fits 784 = .ok (.putfield 146, 3) := by decide +kernel
theorem dX7_fits_787 : decode cX7_fits 787 = .ok (.aload_n 0, 1) := by decide +kernel
theorem dX7_fits_788 : decode cX7_fits 788 = .ok (.getfield 28, 3) := by decide +kernel
theorem dX7_fits_791 : decode cX7_fits 791 = .ok (.iload_n 1, 1) := by decide +kernel
theorem dX7_fits_792 : decode cX7_fits 792 = .ok (.iaload, 1) := by decide +kernel
theorem dX7_fits_793 : decode cX7_fits 793 = .ok (.bipush 6, 2) := by decide +kernel
theorem dX7_fits_795 : decode cX7_fits 795 = .ok (.if_icmp .ne 15, 3) := by decide +kernel
theorem dX7_fits_798 : decode cX7_fits 798 = .ok (.aload_n 0, 1) := by decide +kernel
theorem dX7_fits_799 : decode cX7_fits 799 = .ok (.dup, 1) := by decide +kernel
theorem dX7_fits_800 : decode cX7_fits 800 = .ok (.getfield 146, 3) := by decide +kernel
theorem dX7_fits_803 : decode cX7_fits 803 = .ok (.ldc2_w 80, 3) := by decide +kernel
theorem dX7_fits_806 : decode cX7_fits 806 = .ok (.land, 1) := by decide +kernel
theorem dX7_fits_807 : decode cX7_fits 807 = .ok (.putfield 146, 3) := by decide +kernel
theorem dX7_fits_810 : decode cX7_fits 810 = .ok (.aload_n 0, 1) := by decide +kernel
theorem dX7_fits_811 : decode cX7_fits 811 = .ok (.getfield 28, 3) := by decide +kernel
theorem dX7_fits_814 : decode cX7_fits 814 = .ok (.iload_n 1, 1) := by decide +kernel
theorem dX7_fits_815 : decode cX7_fits 815 = .ok (.iaload, 1) := by decide +kernel
theorem dX7_fits_816 : decode cX7_fits 816 = .ok (.iconst 5, 1) := by decide +kernel
theorem dX7_fits_817 : decode cX7_fits 817 = .ok (.if_icmp .ne 15, 3) := by decide +kernel
theorem dX7_fits_820 : decode cX7_fits 820 = .ok (.aload_n 0, 1) := by decide +kernel
theorem dX7_fits_821 : decode cX7_fits 821 = .ok (.dup, 1) := by decide +kernel
theorem dX7_fits_822 : decode cX7_fits 822 = .ok (.getfield 146, 3) := by decide +kernel
theorem dX7_fits_825 : decode cX7_fits 825 = .ok (.ldc2_w 153, 3) := by decide +kernel
theorem dX7_fits_828 : decode cX7_fits 828 = .ok (.land, 1) := by decide +kernel
theorem dX7_fits_829 : decode cX7_fits 829 = .ok (.putfield 146, 3) := by decide +kernel
theorem dX7_fits_832 : decode cX7_fits 832 = .ok (.aload_n 0, 1) := by decide +kernel
theorem dX7_fits_833 : decode cX7_fits 833 = .ok (.getfield 125, 3) := by decide +kernel
theorem dX7_fits_836 : decode cX7_fits 836 = .ok (.ifCond .ne 7, 3) := by decide +kernel
theorem dX7_fits_839 : decode cX7_fits 839 = .ok (.iconst 1, 1) := by decide +kernel
theorem dX7_fits_840 : decode cX7_fits 840 = .ok (.goto 4, 3) := by decide +kernel
theorem dX7_fits_843 : decode cX7_fits 843 = .ok (.iconst 0, 1) := by decide +kernel
theorem dX7_fits_844 : decode cX7_fits 844 = .ok (.ireturn, 1) := by decide +kernel
set_option maxRecDepth 20000 in
theorem ggX7_decode_X7_fits : GoodIn wsX7_decode wsX7_fits := goodIn_r _ [17, 9, 10, 1, 2, 18, 19, 20, 21, 22, 6, 23, 5, 24, 25, 26, 27, 28, 29, 16, 30, 3, 4, 31, 32, 33, 34, 35, 36, 37, 38, 39, 40, 41, 42, 43, 44, 45, 46, 47, 48, 49, 50, 51, 52, 53, 54, 55, 56, 57, 58, 59, 60, 61, 62, 63, 64, 65, 66, 67, 68, 69, 70, 71, 72, 73, 74, 75, 76, 77] rfl (by decide +kernel)
set_option maxRecDepth 20000 in
theorem gX7_decode_X7_fits : GoodIn wsX7_decode (wsV RX7 155 RX7 yX7_fits wsX7_fits) := goodIn_app (goodIn_of _ (by decide +kernel)) ggX7_decode_X7_fits
theorem dX7_decode_0 : decode cX7_decode 0 = .ok (.aload_n 0, 1) := by decide +kernel
theorem dX7_decode_1 : decode cX7_decode 1 = .ok (.iconst 0, 1) := by decide +kernel
theorem dX7_decode_2 : decode cX7_decode 2 = .ok (.putfield 129, 3) := by decide +kernel
theorem dX7_decode_5 : decode cX7_decode 5 = .ok (.aload_n 0, 1) := by decide +kernel
theorem dX7_decode_6 : decode cX7_decode 6 = .ok (.iconst 0, 1) := by decide +kernel
theorem dX7_decode_7 : decode cX7_decode 7 = .ok (.putfield 125, 3) := by decide +kernel
theorem dX7_decode_10 : decode cX7_decode 10 = .ok (.aload_n 0, 1) := by decide +kernel
theorem dX7_decode_11 : decode cX7_decode 11 = .ok (.getfield 122, 3) := by decide +kernel
theorem dX7_decode_14 : decode cX7_decode 14 = .ok (.ifCond .le 19, 3) := by decide +kernel
theorem dX7_decode_17 : decode cX7_decode 17 = .ok (.aload_n 0, 1) := by decide +kernel
theorem dX7_decode_18 : decode cX7_decode 18 = .ok (.getfield 43, 3) := by decide +kernel
theorem dX7_decode_21 : decode cX7_decode 21 = .ok (.iconst 0, 1) := by decide +kernel
theorem dX7_decode_22 : decode cX7_decode 22 = .ok (.iaload, 1) := by decide +kernel
theorem dX7_decode_23 : decode cX7_decode 23 = .ok (.sipush 243, 3) := by decide +kernel
theorem dX7_decode_26 : decode cX7_decode 26 = .ok (.if_icmp .ne 7, 3) := by decide +kernel
theorem dX7_decode_29 : decode cX7_decode 29 = .ok (.iconst 1, 1) := by decide +kernel
theorem dX7_decode_30 : decode cX7_decode 30 = .ok (.goto 4, 3) := by decide +kernel
theorem dX7_decode_33 : decode cX7_decode 33 = .ok (.iconst 0, 1) := by decide +kernel
theorem dX7_decode_34 : decode cX7_decode 34 = .ok (.istore_n 1, 1) := by decide +kernel
theorem dX7_decode_35 : decode cX7_decode 35 = .ok (.iload_n 1, 1) := by decide +kernel
theorem dX7_decode_36 : decode cX7_decode 36 = .ok (.ifCond .eq 7, 3) := by decide +kernel
theorem dX7_decode_39 : decode cX7_decode 39 = .ok (.iconst 1, 1) := by decide +kernel
theorem dX7_decode_40 : decode cX7_decode 40 = .ok (.goto 4, 3) := by decide +kernel
theorem dX7_decode_43 : decode cX7_decode 43 = .ok (.iconst 0, 1) := by decide +kernel
theorem dX7_decode_44 : decode cX7_decode 44 = .ok (.istore_n 2, 1) := by decide +kernel
theorem dX7_decode_45 : decode cX7_decode 45 = .ok (.aload_n 0, 1) := by decide +kernel
theorem dX7_decode_46 : decode cX7_decode 46 = .ok (.iload_n 2, 1) := by decide +kernel
theorem dX7_decode_47 : decode cX7_decode 47 = .ok (.aload_n 0, 1) := by decide +kernel
theorem dX7_decode_48 : decode cX7_decode 48 = .ok (.getfield 122, 3) := by decide +kernel
theorem dX7_decode_51 : decode cX7_decode 51 = .ok (.if_icmp .ge 19, 3) := by decide +kernel
theorem dX7_decode_54 : decode cX7_decode 54 = .ok (.aload_n 0, 1) := by decide +kernel
theorem dX7_decode_55 : decode cX7_decode 55 = .ok (.getfield 43, 3) := by decide +kernel
theorem dX7_decode_58 : decode cX7_decode 58 = .ok (.iload_n 2, 1) := by decide +kernel
theorem dX7_decode_59 : decode cX7_decode 59 = .ok (.iaload, 1) := by decide +kernel
theorem dX7_decode_60 : decode cX7_decode 60 = .ok (.iconst 4, 1) := by decide +kernel
theorem dX7_decode_61 : decode cX7_decode 61 = .ok (.ishr, 1) := by decide +kernel
theorem dX7_decode_62 : decode cX7_decode 62 = .ok (.iconst 4, 1) := by decide +kernel
theorem dX7_decode_63 : decode cX7_decode 63 = .ok (.if_icmp .ne 7, 3) := by decide +kernel
theorem dX7_decode_66 : decode cX7_decode 66 = .ok (.iconst 1, 1) := by decide +kernel
