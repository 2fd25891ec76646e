theorem dX7_octet_9 : decode cX7_octet 9 = .ok (.iload_n 1, 1) := by decide +kernel
theorem dX7_octet_10 : decode cX7_octet 10 = .ok (.aload_n 0, 1) := by decide +kernel
theorem dX7_octet_11 : decode cX7_octet 11 = .ok (.getfield 119, 3) := by decide +kernel
theorem dX7_octet_14 : decode cX7_octet 14 = .ok (.if_icmp .ge 12, 3) := by decide +kernel
theorem dX7_octet_17 : decode cX7_octet 17 = .ok (.aload_n 0, 1) := by decide +kernel
theorem dX7_octet_18 : decode cX7_octet 18 = .ok (.getfield 37, 3) := by decide +kernel
theorem dX7_octet_21 : decode cX7_octet 21 = .ok (.iload_n 1, 1) := by decide +kernel
theorem dX7_octet_22 : decode cX7_octet 22 = .ok (.iaload, 1) := by decide +kernel
theorem dX7_octet_23 : decode cX7_octet 23 = .ok (.goto 4, 3) := by decide +kernel
theorem dX7_octet_26 : decode cX7_octet 26 = .ok (.iconst (-1), 1) := by decide +kernel
theorem dX7_octet_27 : decode cX7_octet 27 = .ok (.ireturn, 1) := by decide +kernel
theorem dX7_feed_0 : decode cX7_feed 0 = .ok (.aload_n 0, 1) := by decide +kernel
theorem dX7_feed_1 : decode cX7_feed 1 = .ok (.iconst 0, 1) := by decide +kernel
theorem dX7_feed_2 : decode cX7_feed 2 = .ok (.putfield 57, 3) := by decide +kernel
theorem dX7_feed_5 : decode cX7_feed 5 = .ok (.iload_n 3, 1) := by decide +kernel
theorem dX7_feed_6 : decode cX7_feed 6 = .ok (.iconst 1, 1) := by decide +kernel
theorem dX7_feed_7 : decode cX7_feed 7 = .ok (.if_icmp .lt 20, 3) := by decide +kernel
theorem dX7_feed_10 : decode cX7_feed 10 = .ok (.iload_n 3, 1) := by decide +kernel
theorem dX7_feed_11 : decode cX7_feed 11 = .ok (.bipush 8, 2) := by decide +kernel
theorem dX7_feed_13 : decode cX7_feed 13 = .ok (.if_icmp .gt 14, 3) := by decide +kernel
theorem dX7_feed_16 : decode cX7_feed 16 = .ok (.aload_n 0, 1) := by decide +kernel
theorem dX7_feed_17 : decode cX7_feed 17 = .ok (.getfield 122, 3) := by decide +kernel
theorem dX7_feed_20 : decode cX7_feed 20 = .ok (.iload_n 3, 1) := by decide +kernel
theorem dX7_feed_21 : decode cX7_feed 21 = .ok (.iadd, 1) := by decide +kernel
theorem dX7_feed_22 : decode cX7_feed 22 = .ok (.bipush 16, 2) := by decide +kernel
theorem dX7_feed_24 : decode cX7_feed 24 = .ok (.if_icmp .le 5, 3) := by decide +kernel
theorem dX7_feed_27 : decode cX7_feed 27 = .ok (.iconst 0, 1) := by decide +kernel
theorem dX7_feed_28 : decode cX7_feed 28 = .ok (.ireturn, 1) := by decide +kernel
theorem dX7_feed_29 : decode cX7_feed 29 = .ok (.iload_n 3, 1) := by decide +kernel
theorem dX7_feed_30 : decode cX7_feed 30 = .ok (.iconst 1, 1) := by decide +kernel
theorem dX7_feed_31 : decode cX7_feed 31 = .ok (.isub, 1) := by decide +kernel
theorem dX7_feed_32 : decode cX7_feed 32 = .ok (.istore 4, 2) := by decide +kernel
theorem dX7_feed_34 : decode cX7_feed 34 = .ok (.iload 4, 2) := by decide +kernel
theorem dX7_feed_36 : decode cX7_feed 36 = .ok (.ifCond .lt 40, 3) := by decide +kernel
theorem dX7_feed_39 : decode cX7_feed 39 = .ok (.aload_n 0, 1) := by decide +kernel
theorem dX7_feed_40 : decode cX7_feed 40 = .ok (.getfield 43, 3) := by decide +kernel
theorem dX7_feed_43 : decode cX7_feed 43 = .ok (.aload_n 0, 1) := by decide +kernel
theorem dX7_feed_44 : decode cX7_feed 44 = .ok (.getfield 122, 3) := by decide +kernel
theorem dX7_feed_47 : decode cX7_feed 47 = .ok (.lload_n 1, 1) := by decide +kernel
theorem dX7_feed_48 : decode cX7_feed 48 = .ok (.bipush 8, 2) := by decide +kernel
theorem dX7_feed_50 : decode cX7_feed 50 = .ok (.iload 4, 2) := by decide +kernel
theorem dX7_feed_52 : decode cX7_feed 52 = .ok (.imul, 1) := by decide +kernel
theorem dX7_feed_53 : decode cX7_feed 53 = .ok (.lshr, 1) := by decide +kernel
theorem dX7_feed_54 : decode cX7_feed 54 = .ok (.ldc2_w 80, 3) := by decide +kernel
theorem dX7_feed_57 : decode cX7_feed 57 = .ok (.land, 1) := by decide +kernel
theorem dX7_feed_58 : decode cX7_feed 58 = .ok (.l2i, 1) := by decide +kernel
theorem dX7_feed_59 : decode cX7_feed 59 = .ok (.iastore, 1) := by decide +kernel
theorem dX7_feed_60 : decode cX7_feed 60 = .ok (.aload_n 0, 1) := by decide +kernel
theorem dX7_feed_61 : decode cX7_feed 61 = .ok (.dup, 1) := by decide +kernel
theorem dX7_feed_62 : decode cX7_feed 62 = .ok (.getfield 122, 3) := by decide +kernel
theorem dX7_feed_65 : decode cX7_feed 65 = .ok (.iconst 1, 1) := by decide +kernel
theorem dX7_feed_66 : decode cX7_feed 66 = .ok (.iadd, 1) := by decide +kernel
theorem dX7_feed_67 : decode cX7_feed 67 = .ok (.putfield 122, 3) := by decide +kernel
theorem dX7_feed_70 : decode cX7_feed 70 = .ok (.iinc 4 (-1), 3) := by decide +kernel
theorem dX7_feed_73 : decode cX7_feed 73 = .ok (.goto (-39), 3) := by decide +kernel
theorem dX7_feed_76 : decode cX7_feed 76 = .ok (.iconst 1, 1) := by decide +kernel
theorem dX7_feed_77 : decode cX7_feed 77 = .ok (.ireturn, 1) := by decide +kernel
theorem dX7_next_0 : decode cX7_next 0 = .ok (.aload_n 0, 1) := by decide +kernel
theorem dX7_next_1 : decode cX7_next 1 = .ok (.aload_n 0, 1) := by decide +kernel
theorem dX7_next_2 : decode cX7_next 2 = .ok (.getfield 125, 3) := by decide +kernel
theorem dX7_next_5 : decode cX7_next 5 = .ok (.ifCond .ne 14, 3) := by decide +kernel
theorem dX7_next_8 : decode cX7_next 8 = .ok (.aload_n 0, 1) := by decide +kernel
theorem dX7_next_9 : decode cX7_next 9 = .ok (.getfield 129, 3) := by decide +kernel
theorem dX7_next_12 : decode cX7_next 12 = .ok (.aload_n 0, 1) := by decide +kernel
theorem dX7_next_13 : decode cX7_next 13 = .ok (.getfield 122, 3) := by decide +kernel
theorem dX7_next_16 : decode cX7_next 16 = .ok (.if_icmp .lt 7, 3) := by decide +kernel
theorem dX7_next_19 : decode cX7_next 19 = .ok (.iconst 1, 1) := by decide +kernel
theorem dX7_next_20 : decode cX7_next 20 = .ok (.goto 4, 3) := by decide +kernel
theorem dX7_next_23 : decode cX7_next 23 = .ok (.iconst 0, 1) := by decide +kernel
theorem dX7_next_24 : decode cX7_next 24 = .ok (.putfield 125, 3) := by decide +kernel
theorem dX7_next_27 : decode cX7_next 27 = .ok (.aload_n 0, 1) := by decide +kernel
theorem dX7_next_28 : decode cX7_next 28 = .ok (.dup, 1) := by decide +kernel
theorem dX7_next_29 : decode cX7_next 29 = .ok (.getfield 129, 3) := by decide +kernel
theorem dX7_next_32 : decode cX7_next 32 = .ok (.iconst 1, 1) := by decide +kernel
theorem dX7_next_33 : decode cX7_next 33 = .ok (.iadd, 1) := by decide +kernel
theorem dX7_next_34 : decode cX7_next 34 = .ok (.putfield 129, 3) := by decide +kernel
theorem dX7_next_37 : decode cX7_next 37 = .ok (.aload_n 0, 1) := by decide +kernel
theorem dX7_next_38 : decode cX7_next 38 = .ok (.getfield 129, 3) := by decide +kernel
theorem dX7_next_41 : decode cX7_next 41 = .ok (.aload_n 0, 1) := by decide +kernel
theorem dX7_next_42 : decode cX7_next 42 = .ok (.getfield 122, 3) := by decide +kernel
theorem dX7_next_45 : decode cX7_next 45 = .ok (.if_icmp .gt 17, 3) := by decide +kernel
theorem dX7_next_48 : decode cX7_next 48 = .ok (.aload_n 0, 1) := by decide +kernel
theorem dX7_next_49 : decode cX7_next 49 = .ok (.getfield 43, 3) := by decide +kernel
theorem dX7_next_52 : decode cX7_next 52 = .ok (.aload_n 0, 1) := by decide +kernel
theorem dX7_next_53 : decode cX7_next 53 = .ok (.getfield 129, 3) := by decide +kernel
theorem dX7_next_56 : decode cX7_next 56 = .ok (.iconst 1, 1) := by decide +kernel
theorem dX7_next_57 : decode cX7_next 57 = .ok (.isub, 1) := by decide +kernel
theorem dX7_next_58 : decode cX7_next 58 = .ok (.iaload, 1) := by decide +kernel
theorem dX7_next_59 : decode cX7_next 59 = .ok (.goto 4, 3) := by decide +kernel
theorem dX7_next_62 : decode cX7_next 62 = .ok (.iconst 0, 1) := by decide +kernel
theorem dX7_next_63 : decode cX7_next 63 = .ok (.ireturn, 1) := by decide +kernel
set_option maxRecDepth 20000 in
theorem ggX7_take_X7_next : GoodIn wsX7_take wsX7_next := goodIn_r _ [5, 6, 7, 8, 9, 10, 11, 12, 13, 14, 15, 16, 17, 18, 19, 20, 21, 22, 23, 24, 25, 26, 27, 28, 29, 30, 31, 32] rfl (by decide +kernel)
set_option maxRecDepth 20000 in
theorem gX7_take_X7_next : GoodIn wsX7_take (wsV RX7 132 RX7 yX7_next wsX7_next) := goodIn_app (goodIn_of _ (by decide +kernel)) ggX7_take_X7_next
theorem dX7_take_0 : decode cX7_take 0 = .ok (.lconst 0, 1) := by decide +kernel
theorem dX7_take_1 : decode cX7_take 1 = .ok (.lstore_n 2, 1) := by decide +kernel
theorem dX7_take_2 : decode cX7_take 2 = .ok (.iconst 0, 1) := by decide +kernel
theorem dX7_take_3 : decode cX7_take 3 = .ok (.istore 4, 2) := by decide +kernel
theorem dX7_take_5 : decode cX7_take 5 = .ok (.iload 4, 2) := by decide +kernel
theorem dX7_take_7 : decode cX7_take 7 = .ok (.iload_n 1, 1) := by decide +kernel
theorem dX7_take_8 : decode cX7_take 8 = .ok (.if_icmp .ge 23, 3) := by decide +kernel
theorem dX7_take_11 : decode cX7_take 11 = .ok (.lload_n 2, 1) := by decide +kernel
theorem dX7_take_12 : decode cX7_take 12 = .ok (.aload_n 0, 1) := by decide +kernel
theorem dX7_take_13 : decode cX7_take 13 = .ok (.invokevirtual 132, 3) := by decide +kernel
theorem dX7_take_16 : decode cX7_take 16 = .ok (.i2l, 1) := by decide +kernel
theorem dX7_take_17 : decode cX7_take 17 = .ok (.bipush 8, 2) := by decide +kernel
theorem dX7_take_19 : decode cX7_take 19 = .ok (.iload 4, 2) := by decide +kernel
theorem dX7_take_21 : decode cX7_take 21 = .ok (.imul, 1) := by decide +kernel
theorem dX7_take_22 : decode cX7_take 22 = .ok (.lshl, 1) := by decide +kernel
theorem dX7_take_23 : decode cX7_take 23 = .ok (.lor, 1) := by decide +kernel
theorem dX7_take_24 : decode cX7_take 24 = .ok (.lstore_n 2, 1) := by decide +kernel
theorem dX7_take_25 : decode cX7_take 25 = .ok (.iinc 4 1, 3) := by decide +kernel
theorem dX7_take_28 : decode cX7_take 28 = .ok (.goto (-23), 3) := by decide +kernel
theorem dX7_take_31 : decode cX7_take 31 = .ok (.iload_n 1, 1) := by decide +kernel
theorem dX7_take_32 : decode cX7_take 32 = .ok (.ifCond .eq 9, 3) := by decide +kernel
theorem dX7_take_35 : decode cX7_take 35 = .ok (.iload_n 1, 1) := by decide +kernel
theorem dX7_take_36 : decode cX7_take 36 = .ok (.bipush 8, 2) := by decide +kernel
theorem dX7_take_38 : decode cX7_take 38 = .ok (.if_icmp .ne 7, 3) := by decide +kernel
theorem dX7_take_41 : decode cX7_take 41 = .ok (.lload_n 2, 1) := by decide +kernel
theorem dX7_take_42 : decode cX7_take 42 = .ok (.goto 20, 3) := by decide +kernel
theorem dX7_take_45 : decode cX7_take 45 = .ok (.lload_n 2, 1) := by decide +kernel
theorem dX7_take_46 : decode cX7_take 46 = .ok (.bipush 64, 2) := by decide +kernel
theorem dX7_take_48 : decode cX7_take 48 = .ok (.bipush 8, 2) := by decide +kernel
theorem dX7_take_50 : decode cX7_take 50 = .ok (.iload_n 1, 1) := by decide +kernel
theorem dX7_take_51 : decode cX7_take 51 = .ok (.imul, 1) := by decide +kernel
theorem dX7_take_52 : decode cX7_take 52 = .ok (.isub, 1) := by decide +kernel
theorem dX7_take_53 : decode cX7_take 53 = .ok (.lshl, 1) := by decide +kernel
theorem dX7_take_54 : decode cX7_take 54 = .ok (.bipush 64, 2) := by decide +kernel
theorem dX7_take_56 : decode cX7_take 56 = .ok (.bipush 8, 2) := by decide +kernel
theorem dX7_take_58 : decode cX7_take 58 = .ok (.iload_n 1, 1) := by decide +kernel
theorem dX7_take_59 : decode cX7_take 59 = .ok (.imul, 1) := by decide +kernel
theorem dX7_take_60 : decode cX7_take 60 = .ok (.isub, 1) := by decide +kernel
theorem dX7_take_61 : decode cX7_take 61 = .ok (.lshr, 1) := by decide +kernel
theorem dX7_take_62 : decode cX7_take 62 = .ok (.lreturn, 1) := by decide +kernel
set_option maxRecDepth 20000 in
theorem ggX7_takeForm_X7_next : GoodIn wsX7_takeForm wsX7_next := goodIn_r _ [9, 4, 10, 11, 12, 17, 18, 19, 20, 21, 22, 23, 24, 25, 26, 27, 28, 29, 30, 31, 32, 33, 34, 35, 36, 37, 38, 39] rfl (by decide +kernel)
set_option maxRecDepth 20000 in
theorem gX7_takeForm_X7_next : GoodIn wsX7_takeForm (wsV RX7 132 RX7 yX7_next wsX7_next) := goodIn_app (goodIn_of _ (by decide +kernel)) ggX7_takeForm_X7_next
set_option maxRecDepth 20000 in
theorem ggX7_takeForm_X7_take : GoodIn wsX7_takeForm wsX7_take := goodIn_r _ [16, 5, 6, 7, 8, 9, 4, 10, 11, 12, 17, 18, 19, 20, 21, 22, 23, 24, 25, 26, 27, 28, 29, 30, 31, 32, 33, 34, 35, 36, 37, 38, 39] rfl (by decide +kernel)
set_option maxRecDepth 20000 in
theorem gX7_takeForm_X7_take : GoodIn wsX7_takeForm (wsV RX7 142 RX7 yX7_take wsX7_take) := goodIn_app (goodIn_of _ (by decide +kernel)) ggX7_takeForm_X7_take
theorem dX7_takeForm_0 : decode cX7_takeForm 0 = .ok (.iload_n 1, 1) := by decide +kernel
theorem dX7_takeForm_1 : decode cX7_takeForm 1 = .ok (.bipush 6, 2) := by decide +kernel
theorem dX7_takeForm_3 : decode cX7_takeForm 3 = .ok (.ishr, 1) := by decide +kernel
theorem dX7_takeForm_4 : decode cX7_takeForm 4 = .ok (.istore 4, 2) := by decide +kernel
theorem dX7_takeForm_6 : decode cX7_takeForm 6 = .ok (.iload_n 1, 1) := by decide +kernel
theorem dX7_takeForm_7 : decode cX7_takeForm 7 = .ok (.bipush 7, 2) := by decide +kernel
theorem dX7_takeForm_9 : decode cX7_takeForm 9 = .ok (.iand, 1) := by decide +kernel
theorem dX7_takeForm_10 : decode cX7_takeForm 10 = .ok (.istore 5, 2) := by decide +kernel
theorem dX7_takeForm_12 : decode cX7_takeForm 12 = .ok (.aload_n 0, 1) := by decide +kernel
theorem dX7_takeForm_13 : decode cX7_takeForm 13 = .ok (.getfield 136, 3) := by decide +kernel
theorem dX7_takeForm_16 : decode cX7_takeForm 16 = .ok (.iconst 1, 1) := by decide +kernel
theorem dX7_takeForm_17 : decode cX7_takeForm 17 = .ok (.iand, 1) := by decide +kernel
theorem dX7_takeForm_18 : decode cX7_takeForm 18 = .ok (.bipush 8, 2) := by decide +kernel
theorem dX7_takeForm_20 : decode cX7_takeForm 20 = .ok (.imul, 1) := by decide +kernel
theorem dX7_takeForm_21 : decode cX7_takeForm 21 = .ok (.istore 6, 2) := by decide +kernel
theorem dX7_takeForm_23 : decode cX7_takeForm 23 = .ok (.iload 4, 2) := by decide +kernel
theorem dX7_takeForm_25 : decode cX7_takeForm 25 = .ok (.iconst 3, 1) := by decide +kernel
theorem dX7_takeForm_26 : decode cX7_takeForm 26 = .ok (.if_icmp .ne 53, 3) := by decide +kernel
theorem dX7_takeForm_29 : decode cX7_takeForm 29 = .ok (.aload_n 0, 1) := by decide +kernel
theorem dX7_takeForm_30 : decode cX7_takeForm 30 = .ok (.getfield 34, 3) := by decide +kernel
theorem dX7_takeForm_33 : decode cX7_takeForm 33 = .ok (.iconst 3, 1) := by decide +kernel
theorem dX7_takeForm_34 : decode cX7_takeForm 34 = .ok (.iconst 2, 1) := by decide +kernel
theorem dX7_takeForm_35 : decode cX7_takeForm 35 = .ok (.iload_n 2, 1) := by decide +kernel
theorem dX7_takeForm_36 : decode cX7_takeForm 36 = .ok (.imul, 1) := by decide +kernel
theorem dX7_takeForm_37 : decode cX7_takeForm 37 = .ok (.iadd, 1) := by decide +kernel
theorem dX7_takeForm_38 : decode cX7_takeForm 38 = .ok (.iconst 1, 1) := by decide +kernel
theorem dX7_takeForm_39 : decode cX7_takeForm 39 = .ok (.iastore, 1) := by decide +kernel
theorem dX7_takeForm_40 : decode cX7_takeForm 40 = .ok (.aload_n 0, 1) := by decide +kernel
theorem dX7_takeForm_41 : decode cX7_takeForm 41 = .ok (.getfield 34, 3) := by decide +kernel
theorem dX7_takeForm_44 : decode cX7_takeForm 44 = .ok (.iconst 4, 1) := by decide +kernel
theorem dX7_takeForm_45 : decode cX7_takeForm 45 = .ok (.iconst 2, 1) := by decide +kernel
theorem dX7_takeForm_46 : decode cX7_takeForm 46 = .ok (.iload_n 2, 1) := by decide +kernel
theorem dX7_takeForm_47 : decode cX7_takeForm 47 = .ok (.imul, 1) := by decide +kernel
theorem dX7_takeForm_48 : decode cX7_takeForm 48 = .ok (.iadd, 1) := by decide +kernel
theorem dX7_takeForm_49 : decode cX7_takeForm 49 = .ok (.iload 6, 2) := by decide +kernel
theorem dX7_takeForm_51 : decode cX7_takeForm 51 = .ok (.iload 5, 2) := by decide +kernel
theorem dX7_takeForm_53 : decode cX7_takeForm 53 = .ok (.iadd, 1) := by decide +kernel
theorem dX7_takeForm_54 : decode cX7_takeForm 54 = .ok (.iastore, 1) := by decide +kernel
theorem dX7_takeForm_55 : decode cX7_takeForm 55 = .ok (.iload_n 3, 1) := by decide +kernel
theorem dX7_takeForm_56 : decode cX7_takeForm 56 = .ok (.iconst 1, 1) := by decide +kernel
theorem dX7_takeForm_57 : decode cX7_takeForm 57 = .ok (.if_icmp .ne 21, 3) := by decide +kernel
theorem dX7_takeForm_60 : decode cX7_takeForm 60 = .ok (.aload_n 0, 1) := by decide +kernel
theorem dX7_takeForm_61 : decode cX7_takeForm 61 = .ok (.getfield 139, 3) := by decide +kernel
theorem dX7_takeForm_64 : decode cX7_takeForm 64 = .ok (.ifCond .ne 14, 3) := by decide +kernel
theorem dX7_takeForm_67 : decode cX7_takeForm 67 = .ok (.iload 5, 2) := by decide +kernel
theorem dX7_takeForm_69 : decode cX7_takeForm 69 = .ok (.iconst 3, 1) := by decide +kernel
theorem dX7_takeForm_70 : decode cX7_takeForm 70 = .ok (.if_icmp .le 8, 3) := by decide +kernel
theorem dX7_takeForm_73 : decode cX7_takeForm 73 = .ok (.aload_n 0, 1) := by decide +kernel
theorem dX7_takeForm_74 : decode cX7_takeForm 74 = .ok (.iconst 1, 1) := by decide +kernel
theorem dX7_takeForm_75 : decode cX7_takeForm 75 = .ok (.putfield 125, 3) := by decide +kernel
theorem dX7_takeForm_78 : decode cX7_takeForm 78 = .ok (.return_, 1) := by decide +kernel
theorem dX7_takeForm_79 : decode cX7_takeForm 79 = .ok (.aload_n 0, 1) := by decide +kernel
theorem dX7_takeForm_80 : decode cX7_takeForm 80 = .ok (.getfield 34, 3) := by decide +kernel
theorem dX7_takeForm_83 : decode cX7_takeForm 83 = .ok (.iconst 3, 1) := by decide +kernel
theorem dX7_takeForm_84 : decode cX7_takeForm 84 = .ok (.iconst 2, 1) := by decide +kernel
theorem dX7_takeForm_85 : decode cX7_takeForm 85 = .ok (.iload_n 2, 1) := by decide +kernel
theorem dX7_takeForm_86 : decode cX7_takeForm 86 = .ok (.imul, 1) := by decide +kernel
theorem dX7_takeForm_87 : decode cX7_takeForm 87 = .ok (.iadd, 1) := by decide +kernel
theorem dX7_takeForm_88 : decode cX7_takeForm 88 = .ok (.iconst 2, 1) := by decide +kernel
theorem dX7_takeForm_89 : decode cX7_takeForm 89 = .ok (.iastore, 1) := by decide +kernel
theorem dX7_takeForm_90 : decode cX7_takeForm 90 = .ok (.iload 5, 2) := by decide +kernel
theorem dX7_takeForm_92 : decode cX7_takeForm 92 = .ok (.iconst 4, 1) := by decide +kernel
theorem dX7_takeForm_93 : decode cX7_takeForm 93 = .ok (.if_icmp .ne 10, 3) := by decide +kernel
