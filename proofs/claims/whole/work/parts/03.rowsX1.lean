set_option maxRecDepth 20000 in
theorem ggX1_init_X1_becomeNone : GoodIn wsX1_init wsX1_becomeNone := goodIn_r _ [8, 9, 10, 11, 7, 12, 13, 14, 15, 16, 17, 18, 19, 20] rfl (by decide +kernel)
set_option maxRecDepth 20000 in
theorem gX1_init_X1_becomeNone : GoodIn wsX1_init (wsV RX1 9 RX1 yX1_becomeNone wsX1_becomeNone) := goodIn_app (goodIn_of _ (by decide +kernel)) ggX1_init_X1_becomeNone
theorem dX1_init_0 : decode cX1_init 0 = .ok (.aload_n 0, 1) := by decide +kernel
theorem dX1_init_1 : decode cX1_init 1 = .ok (.invokespecial 3, 3) := by decide +kernel
theorem dX1_init_4 : decode cX1_init 4 = .ok (.aload_n 0, 1) := by decide +kernel
theorem dX1_init_5 : decode cX1_init 5 = .ok (.invokevirtual 9, 3) := by decide +kernel
theorem dX1_init_8 : decode cX1_init 8 = .ok (.return_, 1) := by decide +kernel
set_option maxRecDepth 20000 in
theorem ggX1_becomeNone_X1_become : GoodIn wsX1_becomeNone wsX1_become := goodIn_r _ [5, 6, 7, 8, 9, 10, 11, 12, 13] rfl (by decide +kernel)
set_option maxRecDepth 20000 in
theorem gX1_becomeNone_X1_become : GoodIn wsX1_becomeNone (wsV RX1 14 RX1 yX1_become wsX1_become) := goodIn_app (goodIn_of _ (by decide +kernel)) ggX1_becomeNone_X1_become
theorem dX1_becomeNone_0 : decode cX1_becomeNone 0 = .ok (.aload_n 0, 1) := by decide +kernel
theorem dX1_becomeNone_1 : decode cX1_becomeNone 1 = .ok (.iconst (-1), 1) := by decide +kernel
theorem dX1_becomeNone_2 : decode cX1_becomeNone 2 = .ok (.iconst (-1), 1) := by decide +kernel
theorem dX1_becomeNone_3 : decode cX1_becomeNone 3 = .ok (.iconst 1, 1) := by decide +kernel
theorem dX1_becomeNone_4 : decode cX1_becomeNone 4 = .ok (.iconst 0, 1) := by decide +kernel
theorem dX1_becomeNone_5 : decode cX1_becomeNone 5 = .ok (.invokevirtual 14, 3) := by decide +kernel
theorem dX1_becomeNone_8 : decode cX1_becomeNone 8 = .ok (.return_, 1) := by decide +kernel
theorem dX1_become_0 : decode cX1_become 0 = .ok (.aload_n 0, 1) := by decide +kernel
theorem dX1_become_1 : decode cX1_become 1 = .ok (.iload_n 1, 1) := by decide +kernel
theorem dX1_become_2 : decode cX1_become 2 = .ok (.putfield 18, 3) := by decide +kernel
theorem dX1_become_5 : decode cX1_become 5 = .ok (.aload_n 0, 1) := by decide +kernel
theorem dX1_become_6 : decode cX1_become 6 = .ok (.iload_n 2, 1) := by decide +kernel
theorem dX1_become_7 : decode cX1_become 7 = .ok (.putfield 22, 3) := by decide +kernel
theorem dX1_become_10 : decode cX1_become 10 = .ok (.aload_n 0, 1) := by decide +kernel
theorem dX1_become_11 : decode cX1_become 11 = .ok (.iload_n 3, 1) := by decide +kernel
theorem dX1_become_12 : decode cX1_become 12 = .ok (.putfield 25, 3) := by decide +kernel
theorem dX1_become_15 : decode cX1_become 15 = .ok (.aload_n 0, 1) := by decide +kernel
theorem dX1_become_16 : decode cX1_become 16 = .ok (.iload 4, 2) := by decide +kernel
theorem dX1_become_18 : decode cX1_become 18 = .ok (.putfield 28, 3) := by decide +kernel
theorem dX1_become_21 : decode cX1_become 21 = .ok (.return_, 1) := by decide +kernel
theorem dX1_isSound_0 : decode cX1_isSound 0 = .ok (.aload_n 0, 1) := by decide +kernel
theorem dX1_isSound_1 : decode cX1_isSound 1 = .ok (.getfield 18, 3) := by decide +kernel
theorem dX1_isSound_4 : decode cX1_isSound 4 = .ok (.iconst (-1), 1) := by decide +kernel
theorem dX1_isSound_5 : decode cX1_isSound 5 = .ok (.if_icmp .lt 12, 3) := by decide +kernel
theorem dX1_isSound_8 : decode cX1_isSound 8 = .ok (.aload_n 0, 1) := by decide +kernel
theorem dX1_isSound_9 : decode cX1_isSound 9 = .ok (.getfield 18, 3) := by decide +kernel
theorem dX1_isSound_12 : decode cX1_isSound 12 = .ok (.bipush 16, 2) := by decide +kernel
theorem dX1_isSound_14 : decode cX1_isSound 14 = .ok (.if_icmp .le 5, 3) := by decide +kernel
theorem dX1_isSound_17 : decode cX1_isSound 17 = .ok (.iconst 0, 1) := by decide +kernel
theorem dX1_isSound_18 : decode cX1_isSound 18 = .ok (.ireturn, 1) := by decide +kernel
theorem dX1_isSound_19 : decode cX1_isSound 19 = .ok (.aload_n 0, 1) := by decide +kernel
theorem dX1_isSound_20 : decode cX1_isSound 20 = .ok (.getfield 22, 3) := by decide +kernel
theorem dX1_isSound_23 : decode cX1_isSound 23 = .ok (.iconst (-1), 1) := by decide +kernel
theorem dX1_isSound_24 : decode cX1_isSound 24 = .ok (.if_icmp .ne 17, 3) := by decide +kernel
theorem dX1_isSound_27 : decode cX1_isSound 27 = .ok (.aload_n 0, 1) := by decide +kernel
theorem dX1_isSound_28 : decode cX1_isSound 28 = .ok (.getfield 25, 3) := by decide +kernel
theorem dX1_isSound_31 : decode cX1_isSound 31 = .ok (.iconst 1, 1) := by decide +kernel
theorem dX1_isSound_32 : decode cX1_isSound 32 = .ok (.if_icmp .ne 7, 3) := by decide +kernel
theorem dX1_isSound_35 : decode cX1_isSound 35 = .ok (.iconst 1, 1) := by decide +kernel
theorem dX1_isSound_36 : decode cX1_isSound 36 = .ok (.goto 4, 3) := by decide +kernel
theorem dX1_isSound_39 : decode cX1_isSound 39 = .ok (.iconst 0, 1) := by decide +kernel
theorem dX1_isSound_40 : decode cX1_isSound 40 = .ok (.ireturn, 1) := by decide +kernel
theorem dX1_isSound_41 : decode cX1_isSound 41 = .ok (.aload_n 0, 1) := by decide +kernel
theorem dX1_isSound_42 : decode cX1_isSound 42 = .ok (.getfield 25, 3) := by decide +kernel
theorem dX1_isSound_45 : decode cX1_isSound 45 = .ok (.iconst 1, 1) := by decide +kernel
theorem dX1_isSound_46 : decode cX1_isSound 46 = .ok (.if_icmp .eq 28, 3) := by decide +kernel
theorem dX1_isSound_49 : decode cX1_isSound 49 = .ok (.aload_n 0, 1) := by decide +kernel
theorem dX1_isSound_50 : decode cX1_isSound 50 = .ok (.getfield 25, 3) := by decide +kernel
theorem dX1_isSound_53 : decode cX1_isSound 53 = .ok (.iconst 2, 1) := by decide +kernel
theorem dX1_isSound_54 : decode cX1_isSound 54 = .ok (.if_icmp .eq 20, 3) := by decide +kernel
theorem dX1_isSound_57 : decode cX1_isSound 57 = .ok (.aload_n 0, 1) := by decide +kernel
theorem dX1_isSound_58 : decode cX1_isSound 58 = .ok (.getfield 25, 3) := by decide +kernel
theorem dX1_isSound_61 : decode cX1_isSound 61 = .ok (.iconst 4, 1) := by decide +kernel
theorem dX1_isSound_62 : decode cX1_isSound 62 = .ok (.if_icmp .eq 12, 3) := by decide +kernel
theorem dX1_isSound_65 : decode cX1_isSound 65 = .ok (.aload_n 0, 1) := by decide +kernel
theorem dX1_isSound_66 : decode cX1_isSound 66 = .ok (.getfield 25, 3) := by decide +kernel
theorem dX1_isSound_69 : decode cX1_isSound 69 = .ok (.bipush 8, 2) := by decide +kernel
theorem dX1_isSound_71 : decode cX1_isSound 71 = .ok (.if_icmp .ne 7, 3) := by decide +kernel
theorem dX1_isSound_74 : decode cX1_isSound 74 = .ok (.iconst 1, 1) := by decide +kernel
theorem dX1_isSound_75 : decode cX1_isSound 75 = .ok (.goto 4, 3) := by decide +kernel
theorem dX1_isSound_78 : decode cX1_isSound 78 = .ok (.iconst 0, 1) := by decide +kernel
theorem dX1_isSound_79 : decode cX1_isSound 79 = .ok (.istore_n 1, 1) := by decide +kernel
theorem dX1_isSound_80 : decode cX1_isSound 80 = .ok (.aload_n 0, 1) := by decide +kernel
theorem dX1_isSound_81 : decode cX1_isSound 81 = .ok (.getfield 22, 3) := by decide +kernel
theorem dX1_isSound_84 : decode cX1_isSound 84 = .ok (.ifCond .lt 24, 3) := by decide +kernel
theorem dX1_isSound_87 : decode cX1_isSound 87 = .ok (.aload_n 0, 1) := by decide +kernel
theorem dX1_isSound_88 : decode cX1_isSound 88 = .ok (.getfield 22, 3) := by decide +kernel
theorem dX1_isSound_91 : decode cX1_isSound 91 = .ok (.bipush 15, 2) := by decide +kernel
theorem dX1_isSound_93 : decode cX1_isSound 93 = .ok (.if_icmp .gt 15, 3) := by decide +kernel
theorem dX1_isSound_96 : decode cX1_isSound 96 = .ok (.aload_n 0, 1) := by decide +kernel
theorem dX1_isSound_97 : decode cX1_isSound 97 = .ok (.getfield 22, 3) := by decide +kernel
theorem dX1_isSound_100 : decode cX1_isSound 100 = .ok (.iconst 4, 1) := by decide +kernel
theorem dX1_isSound_101 : decode cX1_isSound 101 = .ok (.if_icmp .eq 7, 3) := by decide +kernel
theorem dX1_isSound_104 : decode cX1_isSound 104 = .ok (.iconst 1, 1) := by decide +kernel
theorem dX1_isSound_105 : decode cX1_isSound 105 = .ok (.goto 4, 3) := by decide +kernel
theorem dX1_isSound_108 : decode cX1_isSound 108 = .ok (.iconst 0, 1) := by decide +kernel
theorem dX1_isSound_109 : decode cX1_isSound 109 = .ok (.istore_n 2, 1) := by decide +kernel
theorem dX1_isSound_110 : decode cX1_isSound 110 = .ok (.iload_n 1, 1) := by decide +kernel
theorem dX1_isSound_111 : decode cX1_isSound 111 = .ok (.ifCond .eq 20, 3) := by decide +kernel
theorem dX1_isSound_114 : decode cX1_isSound 114 = .ok (.iload_n 2, 1) := by decide +kernel
theorem dX1_isSound_115 : decode cX1_isSound 115 = .ok (.ifCond .eq 16, 3) := by decide +kernel
theorem dX1_isSound_118 : decode cX1_isSound 118 = .ok (.aload_n 0, 1) := by decide +kernel
theorem dX1_isSound_119 : decode cX1_isSound 119 = .ok (.getfield 18, 3) := by decide +kernel
theorem dX1_isSound_122 : decode cX1_isSound 122 = .ok (.bipush 16, 2) := by decide +kernel
theorem dX1_isSound_124 : decode cX1_isSound 124 = .ok (.if_icmp .eq 7, 3) := by decide +kernel
theorem dX1_isSound_127 : decode cX1_isSound 127 = .ok (.iconst 1, 1) := by decide +kernel
theorem dX1_isSound_128 : decode cX1_isSound 128 = .ok (.goto 4, 3) := by decide +kernel
theorem dX1_isSound_131 : decode cX1_isSound 131 = .ok (.iconst 0, 1) := by decide +kernel
theorem dX1_isSound_132 : decode cX1_isSound 132 = .ok (.ireturn, 1) := by decide +kernel
theorem dX1_hasBaseRegister_0 : decode cX1_hasBaseRegister 0 = .ok (.aload_n 0, 1) := by decide +kernel
theorem dX1_hasBaseRegister_1 : decode cX1_hasBaseRegister 1 = .ok (.getfield 18, 3) := by decide +kernel
theorem dX1_hasBaseRegister_4 : decode cX1_hasBaseRegister 4 = .ok (.iconst (-1), 1) := by decide +kernel
theorem dX1_hasBaseRegister_5 : decode cX1_hasBaseRegister 5 = .ok (.if_icmp .eq 16, 3) := by decide +kernel
theorem dX1_hasBaseRegister_8 : decode cX1_hasBaseRegister 8 = .ok (.aload_n 0, 1) := by decide +kernel
theorem dX1_hasBaseRegister_9 : decode cX1_hasBaseRegister 9 = .ok (.getfield 18, 3) := by decide +kernel
theorem dX1_hasBaseRegister_12 : decode cX1_hasBaseRegister 12 = .ok (.bipush 16, 2) := by decide +kernel
theorem dX1_hasBaseRegister_14 : decode cX1_hasBaseRegister 14 = .ok (.if_icmp .eq 7, 3) := by decide +kernel
theorem dX1_hasBaseRegister_17 : decode cX1_hasBaseRegister 17 = .ok (.iconst 1, 1) := by decide +kernel
theorem dX1_hasBaseRegister_18 : decode cX1_hasBaseRegister 18 = .ok (.goto 4, 3) := by decide +kernel
theorem dX1_hasBaseRegister_21 : decode cX1_hasBaseRegister 21 = .ok (.iconst 0, 1) := by decide +kernel
theorem dX1_hasBaseRegister_22 : decode cX1_hasBaseRegister 22 = .ok (.ireturn, 1) := by decide +kernel
set_option maxRecDepth 20000 in
theorem ggX1_needsIndexByte_X1_hasBaseRegister : GoodIn wsX1_needsIndexByte wsX1_hasBaseRegister := goodIn_r _ [7, 1, 8, 9, 10, 11] rfl (by decide +kernel)
set_option maxRecDepth 20000 in
theorem gX1_needsIndexByte_X1_hasBaseRegister : GoodIn wsX1_needsIndexByte (wsV RX1 31 RX1 yX1_hasBaseRegister wsX1_hasBaseRegister) := goodIn_app (goodIn_of _ (by decide +kernel)) ggX1_needsIndexByte_X1_hasBaseRegister
theorem dX1_needsIndexByte_0 : decode cX1_needsIndexByte 0 = .ok (.aload_n 0, 1) := by decide +kernel
theorem dX1_needsIndexByte_1 : decode cX1_needsIndexByte 1 = .ok (.getfield 18, 3) := by decide +kernel
theorem dX1_needsIndexByte_4 : decode cX1_needsIndexByte 4 = .ok (.iconst (-1), 1) := by decide +kernel
theorem dX1_needsIndexByte_5 : decode cX1_needsIndexByte 5 = .ok (.if_icmp .eq 29, 3) := by decide +kernel
theorem dX1_needsIndexByte_8 : decode cX1_needsIndexByte 8 = .ok (.aload_n 0, 1) := by decide +kernel
theorem dX1_needsIndexByte_9 : decode cX1_needsIndexByte 9 = .ok (.getfield 22, 3) := by decide +kernel
theorem dX1_needsIndexByte_12 : decode cX1_needsIndexByte 12 = .ok (.iconst (-1), 1) := by decide +kernel
theorem dX1_needsIndexByte_13 : decode cX1_needsIndexByte 13 = .ok (.if_icmp .ne 21, 3) := by decide +kernel
theorem dX1_needsIndexByte_16 : decode cX1_needsIndexByte 16 = .ok (.aload_n 0, 1) := by decide +kernel
theorem dX1_needsIndexByte_17 : decode cX1_needsIndexByte 17 = .ok (.invokevirtual 31, 3) := by decide +kernel
theorem dX1_needsIndexByte_20 : decode cX1_needsIndexByte 20 = .ok (.ifCond .eq 18, 3) := by decide +kernel
theorem dX1_needsIndexByte_23 : decode cX1_needsIndexByte 23 = .ok (.aload_n 0, 1) := by decide +kernel
theorem dX1_needsIndexByte_24 : decode cX1_needsIndexByte 24 = .ok (.getfield 18, 3) := by decide +kernel
theorem dX1_needsIndexByte_27 : decode cX1_needsIndexByte 27 = .ok (.bipush 7, 2) := by decide +kernel
theorem dX1_needsIndexByte_29 : decode cX1_needsIndexByte 29 = .ok (.iand, 1) := by decide +kernel
theorem dX1_needsIndexByte_30 : decode cX1_needsIndexByte 30 = .ok (.iconst 4, 1) := by decide +kernel
theorem dX1_needsIndexByte_31 : decode cX1_needsIndexByte 31 = .ok (.if_icmp .ne 7, 3) := by decide +kernel
theorem dX1_needsIndexByte_34 : decode cX1_needsIndexByte 34 = .ok (.iconst 1, 1) := by decide +kernel
theorem dX1_needsIndexByte_35 : decode cX1_needsIndexByte 35 = .ok (.goto 4, 3) := by decide +kernel
theorem dX1_needsIndexByte_38 : decode cX1_needsIndexByte 38 = .ok (.iconst 0, 1) := by decide +kernel
theorem dX1_needsIndexByte_39 : decode cX1_needsIndexByte 39 = .ok (.ireturn, 1) := by decide +kernel
set_option maxRecDepth 20000 in
theorem ggX1_mod_X1_hasBaseRegister : GoodIn wsX1_mod wsX1_hasBaseRegister := goodIn_r _ [7, 2, 8, 9, 10, 11] rfl (by decide +kernel)
set_option maxRecDepth 20000 in
theorem gX1_mod_X1_hasBaseRegister : GoodIn wsX1_mod (wsV RX1 31 RX1 yX1_hasBaseRegister wsX1_hasBaseRegister) := goodIn_app (goodIn_of _ (by decide +kernel)) ggX1_mod_X1_hasBaseRegister
theorem dX1_mod_0 : decode cX1_mod 0 = .ok (.aload_n 0, 1) := by decide +kernel
theorem dX1_mod_1 : decode cX1_mod 1 = .ok (.invokevirtual 31, 3) := by decide +kernel
theorem dX1_mod_4 : decode cX1_mod 4 = .ok (.ifCond .ne 5, 3) := by decide +kernel
theorem dX1_mod_7 : decode cX1_mod 7 = .ok (.iconst 0, 1) := by decide +kernel
theorem dX1_mod_8 : decode cX1_mod 8 = .ok (.ireturn, 1) := by decide +kernel
theorem dX1_mod_9 : decode cX1_mod 9 = .ok (.aload_n 0, 1) := by decide +kernel
theorem dX1_mod_10 : decode cX1_mod 10 = .ok (.getfield 28, 3) := by decide +kernel
theorem dX1_mod_13 : decode cX1_mod 13 = .ok (.ifCond .ne 16, 3) := by decide +kernel
theorem dX1_mod_16 : decode cX1_mod 16 = .ok (.aload_n 0, 1) := by decide +kernel
theorem dX1_mod_17 : decode cX1_mod 17 = .ok (.getfield 18, 3) := by decide +kernel
theorem dX1_mod_20 : decode cX1_mod 20 = .ok (.bipush 7, 2) := by decide +kernel
theorem dX1_mod_22 : decode cX1_mod 22 = .ok (.iand, 1) := by decide +kernel
theorem dX1_mod_23 : decode cX1_mod 23 = .ok (.iconst 5, 1) := by decide +kernel
theorem dX1_mod_24 : decode cX1_mod 24 = .ok (.if_icmp .eq 5, 3) := by decide +kernel
theorem dX1_mod_27 : decode cX1_mod 27 = .ok (.iconst 0, 1) := by decide +kernel
theorem dX1_mod_28 : decode cX1_mod 28 = .ok (.ireturn, 1) := by decide +kernel
theorem dX1_mod_29 : decode cX1_mod 29 = .ok (.aload_n 0, 1) := by decide +kernel
theorem dX1_mod_30 : decode cX1_mod 30 = .ok (.getfield 28, 3) := by decide +kernel
theorem dX1_mod_33 : decode cX1_mod 33 = .ok (.aload_n 0, 1) := by decide +kernel
theorem dX1_mod_34 : decode cX1_mod 34 = .ok (.getfield 28, 3) := by decide +kernel
theorem dX1_mod_37 : decode cX1_mod 37 = .ok (.i2b, 1) := by decide +kernel
theorem dX1_mod_38 : decode cX1_mod 38 = .ok (.if_icmp .ne 7, 3) := by decide +kernel
theorem dX1_mod_41 : decode cX1_mod 41 = .ok (.iconst 1, 1) := by decide +kernel
theorem dX1_mod_42 : decode cX1_mod 42 = .ok (.goto 4, 3) := by decide +kernel
theorem dX1_mod_45 : decode cX1_mod 45 = .ok (.iconst 2, 1) := by decide +kernel
theorem dX1_mod_46 : decode cX1_mod 46 = .ok (.ireturn, 1) := by decide +kernel
set_option maxRecDepth 20000 in
theorem ggX1_displacementWidth_X1_hasBaseRegister : GoodIn wsX1_displacementWidth wsX1_hasBaseRegister := goodIn_r _ [5, 6, 12, 13, 14, 15] rfl (by decide +kernel)
set_option maxRecDepth 20000 in
theorem gX1_displacementWidth_X1_hasBaseRegister : GoodIn wsX1_displacementWidth (wsV RX1 31 RX1 yX1_hasBaseRegister wsX1_hasBaseRegister) := goodIn_app (goodIn_of _ (by decide +kernel)) ggX1_displacementWidth_X1_hasBaseRegister
set_option maxRecDepth 20000 in
theorem ggX1_displacementWidth_X1_mod : GoodIn wsX1_displacementWidth wsX1_mod := goodIn_r _ [10, 11, 6, 1, 2, 3, 4, 5, 12, 13, 14, 15] rfl (by decide +kernel)
set_option maxRecDepth 20000 in
theorem gX1_displacementWidth_X1_mod : GoodIn wsX1_displacementWidth (wsV RX1 35 RX1 yX1_mod wsX1_mod) := goodIn_app (goodIn_of _ (by decide +kernel)) ggX1_displacementWidth_X1_mod
theorem dX1_displacementWidth_0 : decode cX1_displacementWidth 0 = .ok (.aload_n 0, 1) := by decide +kernel
theorem dX1_displacementWidth_1 : decode cX1_displacementWidth 1 = .ok (.invokevirtual 31, 3) := by decide +kernel
theorem dX1_displacementWidth_4 : decode cX1_displacementWidth 4 = .ok (.ifCond .ne 5, 3) := by decide +kernel
theorem dX1_displacementWidth_7 : decode cX1_displacementWidth 7 = .ok (.iconst 4, 1) := by decide +kernel
theorem dX1_displacementWidth_8 : decode cX1_displacementWidth 8 = .ok (.ireturn, 1) := by decide +kernel
theorem dX1_displacementWidth_9 : decode cX1_displacementWidth 9 = .ok (.aload_n 0, 1) := by decide +kernel
theorem dX1_displacementWidth_10 : decode cX1_displacementWidth 10 = .ok (.invokevirtual 35, 3) := by decide +kernel
theorem dX1_displacementWidth_13 : decode cX1_displacementWidth 13 = .ok (.istore_n 1, 1) := by decide +kernel
theorem dX1_displacementWidth_14 : decode cX1_displacementWidth 14 = .ok (.iload_n 1, 1) := by decide +kernel
theorem dX1_displacementWidth_15 : decode cX1_displacementWidth 15 = .ok (.ifCond .ne 7, 3) := by decide +kernel
theorem dX1_displacementWidth_18 : decode cX1_displacementWidth 18 = .ok (.iconst 0, 1) := by decide +kernel
theorem dX1_displacementWidth_19 : decode cX1_displacementWidth 19 = .ok (.goto 13, 3) := by decide +kernel
theorem dX1_displacementWidth_22 : decode cX1_displacementWidth 22 = .ok (.iload_n 1, 1) := by decide +kernel
theorem dX1_displacementWidth_23 : decode cX1_displacementWidth 23 = .ok (.iconst 1, 1) := by decide +kernel
theorem dX1_displacementWidth_24 : decode cX1_displacementWidth 24 = .ok (.if_icmp .ne 7, 3) := by decide +kernel
theorem dX1_displacementWidth_27 : decode cX1_displacementWidth 27 = .ok (.iconst 1, 1) := by decide +kernel
theorem dX1_displacementWidth_28 : decode cX1_displacementWidth 28 = .ok (.goto 4, 3) := by decide +kernel
theorem dX1_displacementWidth_31 : decode cX1_displacementWidth 31 = .ok (.iconst 4, 1) := by decide +kernel
theorem dX1_displacementWidth_32 : decode cX1_displacementWidth 32 = .ok (.ireturn, 1) := by decide +kernel
set_option maxRecDepth 20000 in
theorem ggX1_formLow_X1_needsIndexByte : GoodIn wsX1_formLow wsX1_needsIndexByte := goodIn_r _ [6, 1, 7, 8, 9, 10, 5, 11, 12, 13, 14, 15] rfl (by decide +kernel)
set_option maxRecDepth 20000 in
theorem gX1_formLow_X1_needsIndexByte : GoodIn wsX1_formLow (wsV RX1 39 RX1 yX1_needsIndexByte wsX1_needsIndexByte) := goodIn_app (goodIn_of _ (by decide +kernel)) ggX1_formLow_X1_needsIndexByte
theorem dX1_formLow_0 : decode cX1_formLow 0 = .ok (.aload_n 0, 1) := by decide +kernel
theorem dX1_formLow_1 : decode cX1_formLow 1 = .ok (.invokevirtual 39, 3) := by decide +kernel
theorem dX1_formLow_4 : decode cX1_formLow 4 = .ok (.ifCond .eq 5, 3) := by decide +kernel
theorem dX1_formLow_7 : decode cX1_formLow 7 = .ok (.iconst 4, 1) := by decide +kernel
theorem dX1_formLow_8 : decode cX1_formLow 8 = .ok (.ireturn, 1) := by decide +kernel
theorem dX1_formLow_9 : decode cX1_formLow 9 = .ok (.aload_n 0, 1) := by decide +kernel
theorem dX1_formLow_10 : decode cX1_formLow 10 = .ok (.getfield 18, 3) := by decide +kernel
theorem dX1_formLow_13 : decode cX1_formLow 13 = .ok (.bipush 16, 2) := by decide +kernel
theorem dX1_formLow_15 : decode cX1_formLow 15 = .ok (.if_icmp .ne 7, 3) := by decide +kernel
theorem dX1_formLow_18 : decode cX1_formLow 18 = .ok (.iconst 5, 1) := by decide +kernel
theorem dX1_formLow_19 : decode cX1_formLow 19 = .ok (.goto 10, 3) := by decide +kernel
theorem dX1_formLow_22 : decode cX1_formLow 22 = .ok (.aload_n 0, 1) := by decide +kernel
theorem dX1_formLow_23 : decode cX1_formLow 23 = .ok (.getfield 18, 3) := by decide +kernel
theorem dX1_formLow_26 : decode cX1_formLow 26 = .ok (.bipush 7, 2) := by decide +kernel
theorem dX1_formLow_28 : decode cX1_formLow 28 = .ok (.iand, 1) := by decide +kernel
theorem dX1_formLow_29 : decode cX1_formLow 29 = .ok (.ireturn, 1) := by decide +kernel
theorem dX1_indexByte_0 : decode cX1_indexByte 0 = .ok (.aload_n 0, 1) := by decide +kernel
theorem dX1_indexByte_1 : decode cX1_indexByte 1 = .ok (.getfield 25, 3) := by decide +kernel
theorem dX1_indexByte_4 : decode cX1_indexByte 4 = .ok (.bipush 8, 2) := by decide +kernel
theorem dX1_indexByte_6 : decode cX1_indexByte 6 = .ok (.if_icmp .ne 7, 3) := by decide +kernel
theorem dX1_indexByte_9 : decode cX1_indexByte 9 = .ok (.iconst 3, 1) := by decide +kernel
theorem dX1_indexByte_10 : decode cX1_indexByte 10 = .ok (.goto 28, 3) := by decide +kernel
theorem dX1_indexByte_13 : decode cX1_indexByte 13 = .ok (.aload_n 0, 1) := by decide +kernel
theorem dX1_indexByte_14 : decode cX1_indexByte 14 = .ok (.getfield 25, 3) := by decide +kernel
theorem dX1_indexByte_17 : decode cX1_indexByte 17 = .ok (.iconst 4, 1) := by decide +kernel
theorem dX1_indexByte_18 : decode cX1_indexByte 18 = .ok (.if_icmp .ne 7, 3) := by decide +kernel
theorem dX1_indexByte_21 : decode cX1_indexByte 21 = .ok (.iconst 2, 1) := by decide +kernel
theorem dX1_indexByte_22 : decode cX1_indexByte 22 = .ok (.goto 16, 3) := by decide +kernel
theorem dX1_indexByte_25 : decode cX1_indexByte 25 = .ok (.aload_n 0, 1) := by decide +kernel
theorem dX1_indexByte_26 : decode cX1_indexByte 26 = .ok (.getfield 25, 3) := by decide +kernel
theorem dX1_indexByte_29 : decode cX1_indexByte 29 = .ok (.iconst 2, 1) := by decide +kernel
theorem dX1_indexByte_30 : decode cX1_indexByte 30 = .ok (.if_icmp .ne 7, 3) := by decide +kernel
theorem dX1_indexByte_33 : decode cX1_indexByte 33 = .ok (.iconst 1, 1) := by decide +kernel
theorem dX1_indexByte_34 : decode cX1_indexByte 34 = .ok (.goto 4, 3) := by decide +kernel
theorem dX1_indexByte_37 : decode cX1_indexByte 37 = .ok (.iconst 0, 1) := by decide +kernel
theorem dX1_indexByte_38 : decode cX1_indexByte 38 = .ok (.istore_n 1, 1) := by decide +kernel
theorem dX1_indexByte_39 : decode cX1_indexByte 39 = .ok (.aload_n 0, 1) := by decide +kernel
theorem dX1_indexByte_40 : decode cX1_indexByte 40 = .ok (.getfield 22, 3) := by decide +kernel
theorem dX1_indexByte_43 : decode cX1_indexByte 43 = .ok (.iconst (-1), 1) := by decide +kernel
theorem dX1_indexByte_44 : decode cX1_indexByte 44 = .ok (.if_icmp .ne 7, 3) := by decide +kernel
theorem dX1_indexByte_47 : decode cX1_indexByte 47 = .ok (.iconst 4, 1) := by decide +kernel
theorem dX1_indexByte_48 : decode cX1_indexByte 48 = .ok (.goto 10, 3) := by decide +kernel
theorem dX1_indexByte_51 : decode cX1_indexByte 51 = .ok (.aload_n 0, 1) := by decide +kernel
theorem dX1_indexByte_52 : decode cX1_indexByte 52 = .ok (.getfield 22, 3) := by decide +kernel
theorem dX1_indexByte_55 : decode cX1_indexByte 55 = .ok (.bipush 7, 2) := by decide +kernel
theorem dX1_indexByte_57 : decode cX1_indexByte 57 = .ok (.iand, 1) := by decide +kernel
theorem dX1_indexByte_58 : decode cX1_indexByte 58 = .ok (.istore_n 2, 1) := by decide +kernel
theorem dX1_indexByte_59 : decode cX1_indexByte 59 = .ok (.aload_n 0, 1) := by decide +kernel
theorem dX1_indexByte_60 : decode cX1_indexByte 60 = .ok (.getfield 18, 3) := by decide +kernel
theorem dX1_indexByte_63 : decode cX1_indexByte 63 = .ok (.iconst (-1), 1) := by decide +kernel
theorem dX1_indexByte_64 : decode cX1_indexByte 64 = .ok (.if_icmp .ne 7, 3) := by decide +kernel
theorem dX1_indexByte_67 : decode cX1_indexByte 67 = .ok (.iconst 5, 1) := by decide +kernel
theorem dX1_indexByte_68 : decode cX1_indexByte 68 = .ok (.goto 10, 3) := by decide +kernel
theorem dX1_indexByte_71 : decode cX1_indexByte 71 = .ok (.aload_n 0, 1) := by decide +kernel
theorem dX1_indexByte_72 : decode cX1_indexByte 72 = .ok (.getfield 18, 3) := by decide +kernel
theorem dX1_indexByte_75 : decode cX1_indexByte 75 = .ok (.bipush 7, 2) := by decide +kernel
theorem dX1_indexByte_77 : decode cX1_indexByte 77 = .ok (.iand, 1) := by decide +kernel
theorem dX1_indexByte_78 : decode cX1_indexByte 78 = .ok (.istore_n 3, 1) := by decide +kernel
theorem dX1_indexByte_79 : decode cX1_indexByte 79 = .ok (.bipush 64, 2) := by decide +kernel
theorem dX1_indexByte_81 : decode cX1_indexByte 81 = .ok (.iload_n 1, 1) := by decide +kernel
theorem dX1_indexByte_82 : decode cX1_indexByte 82 = .ok (.imul, 1) := by decide +kernel
theorem dX1_indexByte_83 : decode cX1_indexByte 83 = .ok (.bipush 8, 2) := by decide +kernel
theorem dX1_indexByte_85 : decode cX1_indexByte 85 = .ok (.iload_n 2, 1) := by decide +kernel
theorem dX1_indexByte_86 : decode cX1_indexByte 86 = .ok (.imul, 1) := by decide +kernel
theorem dX1_indexByte_87 : decode cX1_indexByte 87 = .ok (.iadd, 1) := by decide +kernel
theorem dX1_indexByte_88 : decode cX1_indexByte 88 = .ok (.iload_n 3, 1) := by decide +kernel
theorem dX1_indexByte_89 : decode cX1_indexByte 89 = .ok (.iadd, 1) := by decide +kernel
theorem dX1_indexByte_90 : decode cX1_indexByte 90 = .ok (.ireturn, 1) := by decide +kernel
set_option maxRecDepth 20000 in
theorem ggX1_prefixBits_X1_hasBaseRegister : GoodIn wsX1_prefixBits wsX1_hasBaseRegister := goodIn_r _ [7, 2, 8, 9, 10, 11] rfl (by decide +kernel)
set_option maxRecDepth 20000 in
theorem gX1_prefixBits_X1_hasBaseRegister : GoodIn wsX1_prefixBits (wsV RX1 31 RX1 yX1_hasBaseRegister wsX1_hasBaseRegister) := goodIn_app (goodIn_of _ (by decide +kernel)) ggX1_prefixBits_X1_hasBaseRegister
theorem dX1_prefixBits_0 : decode cX1_prefixBits 0 = .ok (.iconst 0, 1) := by decide +kernel
theorem dX1_prefixBits_1 : decode cX1_prefixBits 1 = .ok (.istore_n 1, 1) := by decide +kernel
theorem dX1_prefixBits_2 : decode cX1_prefixBits 2 = .ok (.aload_n 0, 1) := by decide +kernel
theorem dX1_prefixBits_3 : decode cX1_prefixBits 3 = .ok (.getfield 22, 3) := by decide +kernel
theorem dX1_prefixBits_6 : decode cX1_prefixBits 6 = .ok (.bipush 7, 2) := by decide +kernel
theorem dX1_prefixBits_8 : decode cX1_prefixBits 8 = .ok (.if_icmp .le 7, 3) := by decide +kernel
theorem dX1_prefixBits_11 : decode cX1_prefixBits 11 = .ok (.iload_n 1, 1) := by decide +kernel
theorem dX1_prefixBits_12 : decode cX1_prefixBits 12 = .ok (.iconst 2, 1) := by decide +kernel
theorem dX1_prefixBits_13 : decode cX1_prefixBits 13 = .ok (.ior, 1) := by decide +kernel
theorem dX1_prefixBits_14 : decode cX1_prefixBits 14 = .ok (.istore_n 1, 1) := by decide +kernel
theorem dX1_prefixBits_15 : decode cX1_prefixBits 15 = .ok (.aload_n 0, 1) := by decide +kernel
theorem dX1_prefixBits_16 : decode cX1_prefixBits 16 = .ok (.invokevirtual 31, 3) := by decide +kernel
theorem dX1_prefixBits_19 : decode cX1_prefixBits 19 = .ok (.ifCond .eq 16, 3) := by decide +kernel
theorem dX1_prefixBits_22 : decode cX1_prefixBits 22 = .ok (.aload_n 0, 1) := by decide +kernel
theorem dX1_prefixBits_23 : decode cX1_prefixBits 23 = .ok (.getfield 18, 3) := by decide +kernel
theorem dX1_prefixBits_26 : decode cX1_prefixBits 26 = .ok (.bipush 7, 2) := by decide +kernel
theorem dX1_prefixBits_28 : decode cX1_prefixBits 28 = .ok (.if_icmp .le 7, 3) := by decide +kernel
theorem dX1_prefixBits_31 : decode cX1_prefixBits 31 = .ok (.iload_n 1, 1) := by decide +kernel
theorem dX1_prefixBits_32 : decode cX1_prefixBits 32 = .ok (.iconst 1, 1) := by decide +kernel
theorem dX1_prefixBits_33 : decode cX1_prefixBits 33 = .ok (.ior, 1) := by decide +kernel
theorem dX1_prefixBits_34 : decode cX1_prefixBits 34 = .ok (.istore_n 1, 1) := by decide +kernel
theorem dX1_prefixBits_35 : decode cX1_prefixBits 35 = .ok (.iload_n 1, 1) := by decide +kernel
theorem dX1_prefixBits_36 : decode cX1_prefixBits 36 = .ok (.ireturn, 1) := by decide +kernel
