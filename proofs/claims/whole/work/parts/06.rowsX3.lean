set_option maxRecDepth 20000 in
theorem ggX3_init_X2_init : GoodIn wsX3_init wsX2_init := goodIn_r _ [14, 15, 2, 3, 16, 17, 45, 46] rfl (by decide +kernel)
set_option maxRecDepth 20000 in
theorem gX3_init_X2_init : GoodIn wsX3_init (wsX2_init) := ggX3_init_X2_init
set_option maxRecDepth 20000 in
theorem ggX3_init_X0_init : GoodIn wsX3_init wsX0_init := goodIn_r _ [20, 21, 2, 3, 22, 16, 23, 24, 25, 26, 27, 28, 29, 30, 31, 32, 33, 34, 35, 36, 37, 38, 39, 40, 41, 42, 43, 44, 56, 57, 58, 59, 60, 61, 62, 63, 64, 65, 66] rfl (by decide +kernel)
set_option maxRecDepth 20000 in
theorem gX3_init_X0_init : GoodIn wsX3_init (wsX0_init) := ggX3_init_X0_init
theorem dX3_init_0 : decode cX3_init 0 = .ok (.aload_n 0, 1) := by decide +kernel
theorem dX3_init_1 : decode cX3_init 1 = .ok (.invokespecial 3, 3) := by decide +kernel
theorem dX3_init_4 : decode cX3_init 4 = .ok (.aload_n 0, 1) := by decide +kernel
theorem dX3_init_5 : decode cX3_init 5 = .ok (.new 9, 3) := by decide +kernel
theorem dX3_init_8 : decode cX3_init 8 = .ok (.dup, 1) := by decide +kernel
theorem dX3_init_9 : decode cX3_init 9 = .ok (.invokespecial 11, 3) := by decide +kernel
theorem dX3_init_12 : decode cX3_init 12 = .ok (.putfield 12, 3) := by decide +kernel
theorem dX3_init_15 : decode cX3_init 15 = .ok (.aload_n 0, 1) := by decide +kernel
theorem dX3_init_16 : decode cX3_init 16 = .ok (.new 18, 3) := by decide +kernel
theorem dX3_init_19 : decode cX3_init 19 = .ok (.dup, 1) := by decide +kernel
theorem dX3_init_20 : decode cX3_init 20 = .ok (.invokespecial 20, 3) := by decide +kernel
theorem dX3_init_23 : decode cX3_init 23 = .ok (.putfield 21, 3) := by decide +kernel
theorem dX3_init_26 : decode cX3_init 26 = .ok (.return_, 1) := by decide +kernel
set_option maxRecDepth 20000 in
theorem ggX3_readInstruction_X3_readHead : GoodIn wsX3_readInstruction wsX3_readHead := goodIn_r _ [7, 8, 1, 9, 10, 11, 12, 13, 14, 15, 16, 17, 18, 19, 20, 21, 22, 6, 23, 2, 168, 169, 170, 171, 172, 173, 174, 175, 176, 177, 178] rfl (by decide +kernel)
set_option maxRecDepth 20000 in
theorem gX3_readInstruction_X3_readHead : GoodIn wsX3_readInstruction (wsV RX3 33 RX3 yX3_readHead wsX3_readHead) := goodIn_app (goodIn_of _ (by decide +kernel)) ggX3_readInstruction_X3_readHead
set_option maxRecDepth 20000 in
theorem ggX3_readInstruction_X3_findLine : GoodIn wsX3_readInstruction wsX3_findLine := goodIn_r _ [27, 12, 28, 29, 30, 31, 32, 33, 34, 35, 36, 37, 38, 39, 40, 41, 42, 43, 44, 45, 46, 47, 48, 49, 50, 51, 52, 53, 54, 55, 56, 6, 57, 9, 8, 1, 58, 59, 60, 61, 62, 63, 64, 11, 65, 66, 67, 13, 14, 15, 16, 17, 18, 19, 68, 69, 70, 71, 72, 73, 168, 169, 170, 171, 172, 173, 174, 175, 176, 177, 178] rfl (by decide +kernel)
set_option maxRecDepth 20000 in
theorem gX3_readInstruction_X3_findLine : GoodIn wsX3_readInstruction (wsV RX3 36 RX3 yX3_findLine wsX3_findLine) := goodIn_app (goodIn_of _ (by decide +kernel)) ggX3_readInstruction_X3_findLine
set_option maxRecDepth 20000 in
theorem ggX3_readInstruction_X3_readLine : GoodIn wsX3_readInstruction wsX3_readLine := goodIn_r _ [77, 12, 78, 79, 80, 37, 30, 38, 39, 40, 41, 32, 81, 82, 83, 61, 62, 63, 6, 64, 11, 84, 85, 86, 87, 46, 47, 88, 89, 90, 91, 92, 93, 94, 95, 96, 97, 98, 99, 100, 101, 102, 103, 104, 105, 106, 107, 108, 109, 110, 111, 112, 113, 114, 115, 116, 117, 51, 52, 53, 118, 119, 120, 20, 21, 22, 23, 8, 1, 2, 13, 14, 15, 16, 17, 18, 19, 121, 122, 123, 124, 125, 126, 127, 128, 129, 130, 131, 132, 133, 134, 135, 136, 137, 138, 139, 140, 141, 142, 143, 144, 145, 146, 10, 147, 148, 149, 150, 151, 152, 153, 154, 155, 156, 157, 158, 159, 160, 161, 162, 163, 164, 165, 166, 167, 168, 169, 170, 171, 172, 173, 174, 175, 176, 179, 180, 181, 182, 183, 184, 185, 186, 187, 188, 189, 177, 178] rfl (by decide +kernel)
set_option maxRecDepth 20000 in
theorem gX3_readInstruction_X3_readLine : GoodIn wsX3_readInstruction (wsV RX3 40 RX3 yX3_readLine wsX3_readLine) := goodIn_app (goodIn_of _ (by decide +kernel)) ggX3_readInstruction_X3_readLine
theorem dX3_readInstruction_0 : decode cX3_readInstruction 0 = .ok (.aload_n 0, 1) := by decide +kernel
theorem dX3_readInstruction_1 : decode cX3_readInstruction 1 = .ok (.iconst 0, 1) := by decide +kernel
theorem dX3_readInstruction_2 : decode cX3_readInstruction 2 = .ok (.putfield 25, 3) := by decide +kernel
theorem dX3_readInstruction_5 : decode cX3_readInstruction 5 = .ok (.aload_n 0, 1) := by decide +kernel
theorem dX3_readInstruction_6 : decode cX3_readInstruction 6 = .ok (.iconst 0, 1) := by decide +kernel
theorem dX3_readInstruction_7 : decode cX3_readInstruction 7 = .ok (.putfield 29, 3) := by decide +kernel
theorem dX3_readInstruction_10 : decode cX3_readInstruction 10 = .ok (.aload_n 0, 1) := by decide +kernel
theorem dX3_readInstruction_11 : decode cX3_readInstruction 11 = .ok (.invokevirtual 33, 3) := by decide +kernel
theorem dX3_readInstruction_14 : decode cX3_readInstruction 14 = .ok (.aload_n 0, 1) := by decide +kernel
theorem dX3_readInstruction_15 : decode cX3_readInstruction 15 = .ok (.getfield 29, 3) := by decide +kernel
theorem dX3_readInstruction_18 : decode cX3_readInstruction 18 = .ok (.ifCond .eq 7, 3) := by decide +kernel
theorem dX3_readInstruction_21 : decode cX3_readInstruction 21 = .ok (.iconst (-1), 1) := by decide +kernel
theorem dX3_readInstruction_22 : decode cX3_readInstruction 22 = .ok (.goto 7, 3) := by decide +kernel
theorem dX3_readInstruction_25 : decode cX3_readInstruction 25 = .ok (.aload_n 0, 1) := by decide +kernel
theorem dX3_readInstruction_26 : decode cX3_readInstruction 26 = .ok (.invokevirtual 36, 3) := by decide +kernel
theorem dX3_readInstruction_29 : decode cX3_readInstruction 29 = .ok (.istore_n 1, 1) := by decide +kernel
theorem dX3_readInstruction_30 : decode cX3_readInstruction 30 = .ok (.iload_n 1, 1) := by decide +kernel
theorem dX3_readInstruction_31 : decode cX3_readInstruction 31 = .ok (.iconst (-1), 1) := by decide +kernel
theorem dX3_readInstruction_32 : decode cX3_readInstruction 32 = .ok (.if_icmp .ne 5, 3) := by decide +kernel
theorem dX3_readInstruction_35 : decode cX3_readInstruction 35 = .ok (.iconst 0, 1) := by decide +kernel
theorem dX3_readInstruction_36 : decode cX3_readInstruction 36 = .ok (.ireturn, 1) := by decide +kernel
theorem dX3_readInstruction_37 : decode cX3_readInstruction 37 = .ok (.aload_n 0, 1) := by decide +kernel
theorem dX3_readInstruction_38 : decode cX3_readInstruction 38 = .ok (.iload_n 1, 1) := by decide +kernel
theorem dX3_readInstruction_39 : decode cX3_readInstruction 39 = .ok (.invokevirtual 40, 3) := by decide +kernel
theorem dX3_readInstruction_42 : decode cX3_readInstruction 42 = .ok (.aload_n 0, 1) := by decide +kernel
theorem dX3_readInstruction_43 : decode cX3_readInstruction 43 = .ok (.getfield 29, 3) := by decide +kernel
theorem dX3_readInstruction_46 : decode cX3_readInstruction 46 = .ok (.ifCond .eq 7, 3) := by decide +kernel
theorem dX3_readInstruction_49 : decode cX3_readInstruction 49 = .ok (.iconst 0, 1) := by decide +kernel
theorem dX3_readInstruction_50 : decode cX3_readInstruction 50 = .ok (.goto 7, 3) := by decide +kernel
theorem dX3_readInstruction_53 : decode cX3_readInstruction 53 = .ok (.aload_n 0, 1) := by decide +kernel
theorem dX3_readInstruction_54 : decode cX3_readInstruction 54 = .ok (.getfield 25, 3) := by decide +kernel
theorem dX3_readInstruction_57 : decode cX3_readInstruction 57 = .ok (.ireturn, 1) := by decide +kernel
set_option maxRecDepth 20000 in
theorem ggX3_readHead_X2_at : GoodIn wsX3_readHead wsX2_at := goodIn_r _ [11, 12, 13, 29, 30] rfl (by decide +kernel)
set_option maxRecDepth 20000 in
theorem gX3_readHead_X2_at : GoodIn wsX3_readHead (wsV RX3 44 RX2 yX2_at wsX2_at) := goodIn_app (goodIn_of _ (by decide +kernel)) ggX3_readHead_X2_at
set_option maxRecDepth 20000 in
theorem ggX3_readHead_X3_nextOctet : GoodIn wsX3_readHead wsX3_nextOctet := goodIn_r _ [18, 1, 2, 19, 7, 8, 9, 10, 11, 12, 13, 20, 21, 22, 23, 24, 25, 26, 27, 28, 29, 30] rfl (by decide +kernel)
set_option maxRecDepth 20000 in
theorem gX3_readHead_X3_nextOctet : GoodIn wsX3_readHead (wsV RX3 54 RX3 yX3_nextOctet wsX3_nextOctet) := goodIn_app (goodIn_of _ (by decide +kernel)) ggX3_readHead_X3_nextOctet
theorem dX3_readHead_0 : decode cX3_readHead 0 = .ok (.aload_n 0, 1) := by decide +kernel
theorem dX3_readHead_1 : decode cX3_readHead 1 = .ok (.aload_n 0, 1) := by decide +kernel
theorem dX3_readHead_2 : decode cX3_readHead 2 = .ok (.getfield 12, 3) := by decide +kernel
theorem dX3_readHead_5 : decode cX3_readHead 5 = .ok (.aload_n 0, 1) := by decide +kernel
theorem dX3_readHead_6 : decode cX3_readHead 6 = .ok (.getfield 25, 3) := by decide +kernel
theorem dX3_readHead_9 : decode cX3_readHead 9 = .ok (.invokevirtual 44, 3) := by decide +kernel
theorem dX3_readHead_12 : decode cX3_readHead 12 = .ok (.sipush 243, 3) := by decide +kernel
theorem dX3_readHead_15 : decode cX3_readHead 15 = .ok (.if_icmp .ne 7, 3) := by decide +kernel
theorem dX3_readHead_18 : decode cX3_readHead 18 = .ok (.iconst 1, 1) := by decide +kernel
theorem dX3_readHead_19 : decode cX3_readHead 19 = .ok (.goto 4, 3) := by decide +kernel
theorem dX3_readHead_22 : decode cX3_readHead 22 = .ok (.iconst 0, 1) := by decide +kernel
theorem dX3_readHead_23 : decode cX3_readHead 23 = .ok (.putfield 48, 3) := by decide +kernel
theorem dX3_readHead_26 : decode cX3_readHead 26 = .ok (.aload_n 0, 1) := by decide +kernel
theorem dX3_readHead_27 : decode cX3_readHead 27 = .ok (.getfield 48, 3) := by decide +kernel
theorem dX3_readHead_30 : decode cX3_readHead 30 = .ok (.ifCond .eq 13, 3) := by decide +kernel
theorem dX3_readHead_33 : decode cX3_readHead 33 = .ok (.aload_n 0, 1) := by decide +kernel
theorem dX3_readHead_34 : decode cX3_readHead 34 = .ok (.dup, 1) := by decide +kernel
theorem dX3_readHead_35 : decode cX3_readHead 35 = .ok (.getfield 25, 3) := by decide +kernel
theorem dX3_readHead_38 : decode cX3_readHead 38 = .ok (.iconst 1, 1) := by decide +kernel
theorem dX3_readHead_39 : decode cX3_readHead 39 = .ok (.iadd, 1) := by decide +kernel
theorem dX3_readHead_40 : decode cX3_readHead 40 = .ok (.putfield 25, 3) := by decide +kernel
theorem dX3_readHead_43 : decode cX3_readHead 43 = .ok (.aload_n 0, 1) := by decide +kernel
theorem dX3_readHead_44 : decode cX3_readHead 44 = .ok (.aload_n 0, 1) := by decide +kernel
theorem dX3_readHead_45 : decode cX3_readHead 45 = .ok (.getfield 12, 3) := by decide +kernel
theorem dX3_readHead_48 : decode cX3_readHead 48 = .ok (.aload_n 0, 1) := by decide +kernel
theorem dX3_readHead_49 : decode cX3_readHead 49 = .ok (.getfield 25, 3) := by decide +kernel
theorem dX3_readHead_52 : decode cX3_readHead 52 = .ok (.invokevirtual 44, 3) := by decide +kernel
theorem dX3_readHead_55 : decode cX3_readHead 55 = .ok (.bipush (-16), 2) := by decide +kernel
theorem dX3_readHead_57 : decode cX3_readHead 57 = .ok (.iand, 1) := by decide +kernel
theorem dX3_readHead_58 : decode cX3_readHead 58 = .ok (.bipush 64, 2) := by decide +kernel
theorem dX3_readHead_60 : decode cX3_readHead 60 = .ok (.if_icmp .ne 7, 3) := by decide +kernel
theorem dX3_readHead_63 : decode cX3_readHead 63 = .ok (.iconst 1, 1) := by decide +kernel
theorem dX3_readHead_64 : decode cX3_readHead 64 = .ok (.goto 4, 3) := by decide +kernel
theorem dX3_readHead_67 : decode cX3_readHead 67 = .ok (.iconst 0, 1) := by decide +kernel
theorem dX3_readHead_68 : decode cX3_readHead 68 = .ok (.putfield 51, 3) := by decide +kernel
theorem dX3_readHead_71 : decode cX3_readHead 71 = .ok (.aload_n 0, 1) := by decide +kernel
theorem dX3_readHead_72 : decode cX3_readHead 72 = .ok (.aload_n 0, 1) := by decide +kernel
theorem dX3_readHead_73 : decode cX3_readHead 73 = .ok (.getfield 51, 3) := by decide +kernel
theorem dX3_readHead_76 : decode cX3_readHead 76 = .ok (.ifCond .eq 13, 3) := by decide +kernel
theorem dX3_readHead_79 : decode cX3_readHead 79 = .ok (.aload_n 0, 1) := by decide +kernel
theorem dX3_readHead_80 : decode cX3_readHead 80 = .ok (.invokevirtual 54, 3) := by decide +kernel
theorem dX3_readHead_83 : decode cX3_readHead 83 = .ok (.bipush 15, 2) := by decide +kernel
theorem dX3_readHead_85 : decode cX3_readHead 85 = .ok (.iand, 1) := by decide +kernel
theorem dX3_readHead_86 : decode cX3_readHead 86 = .ok (.goto 4, 3) := by decide +kernel
theorem dX3_readHead_89 : decode cX3_readHead 89 = .ok (.iconst 0, 1) := by decide +kernel
theorem dX3_readHead_90 : decode cX3_readHead 90 = .ok (.putfield 57, 3) := by decide +kernel
theorem dX3_readHead_93 : decode cX3_readHead 93 = .ok (.aload_n 0, 1) := by decide +kernel
theorem dX3_readHead_94 : decode cX3_readHead 94 = .ok (.aload_n 0, 1) := by decide +kernel
theorem dX3_readHead_95 : decode cX3_readHead 95 = .ok (.invokevirtual 54, 3) := by decide +kernel
theorem dX3_readHead_98 : decode cX3_readHead 98 = .ok (.putfield 60, 3) := by decide +kernel
theorem dX3_readHead_101 : decode cX3_readHead 101 = .ok (.aload_n 0, 1) := by decide +kernel
theorem dX3_readHead_102 : decode cX3_readHead 102 = .ok (.getfield 60, 3) := by decide +kernel
theorem dX3_readHead_105 : decode cX3_readHead 105 = .ok (.bipush 15, 2) := by decide +kernel
theorem dX3_readHead_107 : decode cX3_readHead 107 = .ok (.if_icmp .ne 15, 3) := by decide +kernel
theorem dX3_readHead_110 : decode cX3_readHead 110 = .ok (.aload_n 0, 1) := by decide +kernel
theorem dX3_readHead_111 : decode cX3_readHead 111 = .ok (.sipush 3840, 3) := by decide +kernel
theorem dX3_readHead_114 : decode cX3_readHead 114 = .ok (.aload_n 0, 1) := by decide +kernel
theorem dX3_readHead_115 : decode cX3_readHead 115 = .ok (.invokevirtual 54, 3) := by decide +kernel
theorem dX3_readHead_118 : decode cX3_readHead 118 = .ok (.iadd, 1) := by decide +kernel
theorem dX3_readHead_119 : decode cX3_readHead 119 = .ok (.putfield 60, 3) := by decide +kernel
theorem dX3_readHead_122 : decode cX3_readHead 122 = .ok (.return_, 1) := by decide +kernel
set_option maxRecDepth 20000 in
theorem ggX3_findLine_X4_lines : GoodIn wsX3_findLine wsX4_lines := goodIn_r _ [5, 6] rfl (by decide +kernel)
set_option maxRecDepth 20000 in
theorem gX3_findLine_X4_lines : GoodIn wsX3_findLine (va_wsS RX3 63 yX4_lines wsX4_lines) := goodIn_app (goodIn_of _ (by decide +kernel)) ggX3_findLine_X4_lines
set_option maxRecDepth 20000 in
theorem ggX3_findLine_X4_hasOpcode : GoodIn wsX3_findLine wsX4_hasOpcode := goodIn_r _ [9, 10, 11, 4, 12, 13, 14, 15, 6, 16, 17, 18, 19, 20, 21, 22, 23, 24, 25, 26, 27] rfl (by decide +kernel)
set_option maxRecDepth 20000 in
theorem gX3_findLine_X4_hasOpcode : GoodIn wsX3_findLine (va_wsS RX3 68 yX4_hasOpcode wsX4_hasOpcode) := goodIn_app (goodIn_of _ (by decide +kernel)) ggX3_findLine_X4_hasOpcode
set_option maxRecDepth 20000 in
theorem ggX3_findLine_X3_isTold : GoodIn wsX3_findLine wsX3_isTold := goodIn_r _ [32, 33, 34, 35, 36, 37, 4, 38, 13, 14, 15, 6, 39, 40, 41, 31, 42, 43, 44, 45, 46, 47, 48, 49, 50, 51, 52, 53, 54, 55, 56, 57, 58, 59, 60, 61, 62, 63, 64, 65, 66, 67, 68, 69, 70] rfl (by decide +kernel)
set_option maxRecDepth 20000 in
theorem gX3_findLine_X3_isTold : GoodIn wsX3_findLine (wsV RX3 72 RX3 yX3_isTold wsX3_isTold) := goodIn_app (goodIn_of _ (by decide +kernel)) ggX3_findLine_X3_isTold
theorem dX3_findLine_0 : decode cX3_findLine 0 = .ok (.invokestatic 63, 3) := by decide +kernel
theorem dX3_findLine_3 : decode cX3_findLine 3 = .ok (.istore_n 1, 1) := by decide +kernel
theorem dX3_findLine_4 : decode cX3_findLine 4 = .ok (.iconst 0, 1) := by decide +kernel
theorem dX3_findLine_5 : decode cX3_findLine 5 = .ok (.istore_n 2, 1) := by decide +kernel
theorem dX3_findLine_6 : decode cX3_findLine 6 = .ok (.iload_n 2, 1) := by decide +kernel
theorem dX3_findLine_7 : decode cX3_findLine 7 = .ok (.iload_n 1, 1) := by decide +kernel
theorem dX3_findLine_8 : decode cX3_findLine 8 = .ok (.if_icmp .ge 30, 3) := by decide +kernel
theorem dX3_findLine_11 : decode cX3_findLine 11 = .ok (.iload_n 2, 1) := by decide +kernel
theorem dX3_findLine_12 : decode cX3_findLine 12 = .ok (.aload_n 0, 1) := by decide +kernel
theorem dX3_findLine_13 : decode cX3_findLine 13 = .ok (.getfield 60, 3) := by decide +kernel
theorem dX3_findLine_16 : decode cX3_findLine 16 = .ok (.invokestatic 68, 3) := by decide +kernel
theorem dX3_findLine_19 : decode cX3_findLine 19 = .ok (.ifCond .eq 13, 3) := by decide +kernel
theorem dX3_findLine_22 : decode cX3_findLine 22 = .ok (.aload_n 0, 1) := by decide +kernel
theorem dX3_findLine_23 : decode cX3_findLine 23 = .ok (.iload_n 2, 1) := by decide +kernel
theorem dX3_findLine_24 : decode cX3_findLine 24 = .ok (.invokevirtual 72, 3) := by decide +kernel
theorem dX3_findLine_27 : decode cX3_findLine 27 = .ok (.ifCond .eq 5, 3) := by decide +kernel
theorem dX3_findLine_30 : decode cX3_findLine 30 = .ok (.iload_n 2, 1) := by decide +kernel
theorem dX3_findLine_31 : decode cX3_findLine 31 = .ok (.ireturn, 1) := by decide +kernel
theorem dX3_findLine_32 : decode cX3_findLine 32 = .ok (.iinc 2 1, 3) := by decide +kernel
theorem dX3_findLine_35 : decode cX3_findLine 35 = .ok (.goto (-29), 3) := by decide +kernel
theorem dX3_findLine_38 : decode cX3_findLine 38 = .ok (.iconst (-1), 1) := by decide +kernel
theorem dX3_findLine_39 : decode cX3_findLine 39 = .ok (.ireturn, 1) := by decide +kernel
set_option maxRecDepth 20000 in
theorem ggX3_isTold_X4_isRepeated : GoodIn wsX3_isTold wsX4_isRepeated := goodIn_r _ [7, 8, 9, 6, 10, 11] rfl (by decide +kernel)
set_option maxRecDepth 20000 in
theorem gX3_isTold_X4_isRepeated : GoodIn wsX3_isTold (va_wsS RX3 76 yX4_isRepeated wsX4_isRepeated) := goodIn_app (goodIn_of _ (by decide +kernel)) ggX3_isTold_X4_isRepeated
set_option maxRecDepth 20000 in
theorem ggX3_isTold_X3_hasBit : GoodIn wsX3_isTold wsX3_hasBit := goodIn_r _ [16, 17, 34, 35, 36, 37, 38, 39, 40, 41, 42] rfl (by decide +kernel)
set_option maxRecDepth 20000 in
theorem gX3_isTold_X3_hasBit : GoodIn wsX3_isTold (wsV RX3 79 RX3 yX3_hasBit wsX3_hasBit) := goodIn_app (goodIn_of _ (by decide +kernel)) ggX3_isTold_X3_hasBit
set_option maxRecDepth 20000 in
theorem ggX3_isTold_X4_allowsW : GoodIn wsX3_isTold wsX4_allowsW := goodIn_r _ [20, 8, 9, 6, 10, 11] rfl (by decide +kernel)
set_option maxRecDepth 20000 in
theorem gX3_isTold_X4_allowsW : GoodIn wsX3_isTold (va_wsS RX3 82 yX4_allowsW wsX4_allowsW) := goodIn_app (goodIn_of _ (by decide +kernel)) ggX3_isTold_X4_allowsW
set_option maxRecDepth 20000 in
theorem ggX3_isTold_X2_at : GoodIn wsX3_isTold wsX2_at := goodIn_r _ [25, 26, 27, 43, 44] rfl (by decide +kernel)
set_option maxRecDepth 20000 in
theorem gX3_isTold_X2_at : GoodIn wsX3_isTold (wsV RX3 44 RX2 yX2_at wsX2_at) := goodIn_app (goodIn_of _ (by decide +kernel)) ggX3_isTold_X2_at
set_option maxRecDepth 20000 in
theorem ggX3_isTold_X4_allowsForm : GoodIn wsX3_isTold wsX4_allowsForm := goodIn_r _ [30, 31, 32, 6, 33, 8, 9, 10, 11] rfl (by decide +kernel)
set_option maxRecDepth 20000 in
theorem gX3_isTold_X4_allowsForm : GoodIn wsX3_isTold (va_wsS RX3 86 yX4_allowsForm wsX4_allowsForm) := goodIn_app (goodIn_of _ (by decide +kernel)) ggX3_isTold_X4_allowsForm
theorem dX3_isTold_0 : decode cX3_isTold 0 = .ok (.iload_n 1, 1) := by decide +kernel
theorem dX3_isTold_1 : decode cX3_isTold 1 = .ok (.invokestatic 76, 3) := by decide +kernel
theorem dX3_isTold_4 : decode cX3_isTold 4 = .ok (.aload_n 0, 1) := by decide +kernel
theorem dX3_isTold_5 : decode cX3_isTold 5 = .ok (.getfield 48, 3) := by decide +kernel
theorem dX3_isTold_8 : decode cX3_isTold 8 = .ok (.if_icmp .ne 38, 3) := by decide +kernel
theorem dX3_isTold_11 : decode cX3_isTold 11 = .ok (.iload_n 1, 1) := by decide +kernel
theorem dX3_isTold_12 : decode cX3_isTold 12 = .ok (.aload_n 0, 1) := by decide +kernel
theorem dX3_isTold_13 : decode cX3_isTold 13 = .ok (.bipush 8, 2) := by decide +kernel
theorem dX3_isTold_15 : decode cX3_isTold 15 = .ok (.invokevirtual 79, 3) := by decide +kernel
theorem dX3_isTold_18 : decode cX3_isTold 18 = .ok (.invokestatic 82, 3) := by decide +kernel
theorem dX3_isTold_21 : decode cX3_isTold 21 = .ok (.ifCond .eq 25, 3) := by decide +kernel
theorem dX3_isTold_24 : decode cX3_isTold 24 = .ok (.iload_n 1, 1) := by decide +kernel
theorem dX3_isTold_25 : decode cX3_isTold 25 = .ok (.aload_n 0, 1) := by decide +kernel
theorem dX3_isTold_26 : decode cX3_isTold 26 = .ok (.getfield 12, 3) := by decide +kernel
theorem dX3_isTold_29 : decode cX3_isTold 29 = .ok (.aload_n 0, 1) := by decide +kernel
theorem dX3_isTold_30 : decode cX3_isTold 30 = .ok (.getfield 25, 3) := by decide +kernel
theorem dX3_isTold_33 : decode cX3_isTold 33 = .ok (.invokevirtual 44, 3) := by decide +kernel
theorem dX3_isTold_36 : decode cX3_isTold 36 = .ok (.invokestatic 86, 3) := by decide +kernel
theorem dX3_isTold_39 : decode cX3_isTold 39 = .ok (.ifCond .eq 7, 3) := by decide +kernel
theorem dX3_isTold_42 : decode cX3_isTold 42 = .ok (.iconst 1, 1) := by decide +kernel
theorem dX3_isTold_43 : decode cX3_isTold 43 = .ok (.goto 4, 3) := by decide +kernel
theorem dX3_isTold_46 : decode cX3_isTold 46 = .ok (.iconst 0, 1) := by decide +kernel
theorem dX3_isTold_47 : decode cX3_isTold 47 = .ok (.ireturn, 1) := by decide +kernel
set_option maxRecDepth 20000 in
theorem ggX3_readLine_X4_opcodeOf : GoodIn wsX3_readLine wsX4_opcodeOf := goodIn_r _ [7, 8, 9, 6, 10, 11] rfl (by decide +kernel)
set_option maxRecDepth 20000 in
theorem gX3_readLine_X4_opcodeOf : GoodIn wsX3_readLine (va_wsS RX3 89 yX4_opcodeOf wsX4_opcodeOf) := goodIn_app (goodIn_of _ (by decide +kernel)) ggX3_readLine_X4_opcodeOf
set_option maxRecDepth 20000 in
theorem ggX3_readLine_X4_opOf : GoodIn wsX3_readLine wsX4_opOf := goodIn_r _ [14, 8, 9, 6, 10, 11] rfl (by decide +kernel)
set_option maxRecDepth 20000 in
theorem gX3_readLine_X4_opOf : GoodIn wsX3_readLine (va_wsS RX3 92 yX4_opOf wsX4_opOf) := goodIn_app (goodIn_of _ (by decide +kernel)) ggX3_readLine_X4_opOf
set_option maxRecDepth 20000 in
theorem ggX3_readLine_X3_hasBit : GoodIn wsX3_readLine wsX3_hasBit := goodIn_r _ [19, 20, 125, 126, 127, 128, 129, 130, 131, 132, 133] rfl (by decide +kernel)
set_option maxRecDepth 20000 in
theorem gX3_readLine_X3_hasBit : GoodIn wsX3_readLine (wsV RX3 79 RX3 yX3_hasBit wsX3_hasBit) := goodIn_app (goodIn_of _ (by decide +kernel)) ggX3_readLine_X3_hasBit
set_option maxRecDepth 20000 in
theorem ggX3_readLine_X4_sizeTold : GoodIn wsX3_readLine wsX4_sizeTold := goodIn_r _ [23, 8, 9, 6, 10, 11] rfl (by decide +kernel)
set_option maxRecDepth 20000 in
theorem gX3_readLine_X4_sizeTold : GoodIn wsX3_readLine (va_wsS RX3 95 yX4_sizeTold wsX4_sizeTold) := goodIn_app (goodIn_of _ (by decide +kernel)) ggX3_readLine_X4_sizeTold
set_option maxRecDepth 20000 in
theorem ggX3_readLine_X4_hasCondition : GoodIn wsX3_readLine wsX4_hasCondition := goodIn_r _ [26, 8, 9, 6, 10, 11] rfl (by decide +kernel)
set_option maxRecDepth 20000 in
theorem gX3_readLine_X4_hasCondition : GoodIn wsX3_readLine (va_wsS RX3 99 yX4_hasCondition wsX4_hasCondition) := goodIn_app (goodIn_of _ (by decide +kernel)) ggX3_readLine_X4_hasCondition
set_option maxRecDepth 20000 in
theorem ggX3_readLine_X0_begin : GoodIn wsX3_readLine wsX0_begin := goodIn_r _ [31, 32, 33, 34, 35, 36, 37, 30, 38, 39, 40, 134, 135, 136, 137, 138, 139, 140] rfl (by decide +kernel)
set_option maxRecDepth 20000 in
theorem gX3_readLine_X0_begin : GoodIn wsX3_readLine (wsV RX3 102 RX0 yX0_begin wsX0_begin) := goodIn_app (goodIn_of _ (by decide +kernel)) ggX3_readLine_X0_begin
set_option maxRecDepth 20000 in
theorem ggX3_readLine_X1_becomeNone : GoodIn wsX3_readLine wsX1_becomeNone := goodIn_r _ [45, 46, 47, 48, 44, 49, 50, 51, 52, 53, 141, 142, 143, 144] rfl (by decide +kernel)
set_option maxRecDepth 20000 in
theorem gX3_readLine_X1_becomeNone : GoodIn wsX3_readLine (wsV RX3 110 RX1 yX1_becomeNone wsX1_becomeNone) := goodIn_app (goodIn_of _ (by decide +kernel)) ggX3_readLine_X1_becomeNone
set_option maxRecDepth 20000 in
theorem ggX3_readLine_X4_hasForm : GoodIn wsX3_readLine wsX4_hasForm := goodIn_r _ [56, 57, 58, 6, 59, 8, 9, 10, 11, 60, 61, 62] rfl (by decide +kernel)
set_option maxRecDepth 20000 in
theorem gX3_readLine_X4_hasForm : GoodIn wsX3_readLine (va_wsS RX3 115 yX4_hasForm wsX4_hasForm) := goodIn_app (goodIn_of _ (by decide +kernel)) ggX3_readLine_X4_hasForm
set_option maxRecDepth 20000 in
theorem ggX3_readLine_X3_nextOctet : GoodIn wsX3_readLine wsX3_nextOctet := goodIn_r _ [66, 67, 68, 69, 70, 71, 72, 73, 74, 75, 76, 125, 126, 127, 128, 129, 130, 131, 132, 133, 145, 146] rfl (by decide +kernel)
set_option maxRecDepth 20000 in
theorem gX3_readLine_X3_nextOctet : GoodIn wsX3_readLine (wsV RX3 54 RX3 yX3_nextOctet wsX3_nextOctet) := goodIn_app (goodIn_of _ (by decide +kernel)) ggX3_readLine_X3_nextOctet
set_option maxRecDepth 20000 in
theorem ggX3_readLine_X3_formMod : GoodIn wsX3_readLine wsX3_formMod := goodIn_r _ [80, 3, 125, 126, 127, 128, 129, 130, 131, 132, 133] rfl (by decide +kernel)
set_option maxRecDepth 20000 in
theorem gX3_readLine_X3_formMod : GoodIn wsX3_readLine (wsV RX3 121 RX3 yX3_formMod wsX3_formMod) := goodIn_app (goodIn_of _ (by decide +kernel)) ggX3_readLine_X3_formMod
set_option maxRecDepth 20000 in
theorem ggX3_readLine_X3_readMemory : GoodIn wsX3_readLine wsX3_readMemory := goodIn_r _ [84, 3, 2, 77, 78, 79, 18, 80, 85, 86, 87, 88, 15, 16, 17, 19, 20, 63, 64, 65, 66, 67, 68, 69, 70, 71, 72, 73, 74, 75, 76, 89, 90, 91, 92, 93, 47, 48, 44, 49, 50, 51, 52, 53, 125, 126, 127, 128, 129, 130, 131, 132, 133, 134, 135, 136, 137, 138, 139, 140, 145, 146, 141, 142, 143, 144] rfl (by decide +kernel)
set_option maxRecDepth 20000 in
theorem gX3_readLine_X3_readMemory : GoodIn wsX3_readLine (wsV RX3 124 RX3 yX3_readMemory wsX3_readMemory) := goodIn_app (goodIn_of _ (by decide +kernel)) ggX3_readLine_X3_readMemory
set_option maxRecDepth 20000 in
theorem ggX3_readLine_X4_roleOf : GoodIn wsX3_readLine wsX4_roleOf := goodIn_r _ [59, 8, 9, 6, 10, 11] rfl (by decide +kernel)
set_option maxRecDepth 20000 in
theorem gX3_readLine_X4_roleOf : GoodIn wsX3_readLine (va_wsS RX3 127 yX4_roleOf wsX4_roleOf) := goodIn_app (goodIn_of _ (by decide +kernel)) ggX3_readLine_X4_roleOf
set_option maxRecDepth 20000 in
theorem ggX3_readLine_X3_readOperand : GoodIn wsX3_readLine wsX3_readOperand := goodIn_r _ [98, 3, 1, 2, 85, 86, 87, 18, 88, 15, 16, 17, 19, 20, 99, 100, 101, 102, 103, 69, 104, 105, 6, 106, 107, 36, 37, 30, 38, 39, 40, 108, 109, 110, 111, 77, 78, 79, 80, 125, 126, 127, 128, 129, 130, 131, 132, 133, 134, 135, 136, 137, 138, 139, 140] rfl (by decide +kernel)
set_option maxRecDepth 20000 in
theorem gX3_readLine_X3_readOperand : GoodIn wsX3_readLine (wsV RX3 131 RX3 yX3_readOperand wsX3_readOperand) := goodIn_app (goodIn_of _ (by decide +kernel)) ggX3_readLine_X3_readOperand
set_option maxRecDepth 20000 in
theorem ggX3_readLine_X4_numberOf : GoodIn wsX3_readLine wsX4_numberOf := goodIn_r _ [114, 8, 9, 6, 10, 11] rfl (by decide +kernel)
set_option maxRecDepth 20000 in
theorem gX3_readLine_X4_numberOf : GoodIn wsX3_readLine (va_wsS RX3 138 yX4_numberOf wsX4_numberOf) := goodIn_app (goodIn_of _ (by decide +kernel)) ggX3_readLine_X4_numberOf
set_option maxRecDepth 20000 in
theorem ggX3_readLine_X3_readNumber : GoodIn wsX3_readLine wsX3_readNumber := goodIn_r _ [118, 2, 119, 120, 6, 121, 122, 123, 124, 89, 90, 91, 18, 92, 63, 64, 65, 66, 67, 68, 69, 70, 71, 72, 73, 74, 75, 76, 125, 126, 127, 128, 129, 130, 131, 132, 133, 134, 135, 136, 137, 138, 139, 140, 145, 146] rfl (by decide +kernel)
set_option maxRecDepth 20000 in
theorem gX3_readLine_X3_readNumber : GoodIn wsX3_readLine (wsV RX3 141 RX3 yX3_readNumber wsX3_readNumber) := goodIn_app (goodIn_of _ (by decide +kernel)) ggX3_readLine_X3_readNumber
theorem dX3_readLine_0 : decode cX3_readLine 0 = .ok (.aload_n 0, 1) := by decide +kernel
theorem dX3_readLine_1 : decode cX3_readLine 1 = .ok (.getfield 60, 3) := by decide +kernel
theorem dX3_readLine_4 : decode cX3_readLine 4 = .ok (.iload_n 1, 1) := by decide +kernel
theorem dX3_readLine_5 : decode cX3_readLine 5 = .ok (.invokestatic 89, 3) := by decide +kernel
theorem dX3_readLine_8 : decode cX3_readLine 8 = .ok (.isub, 1) := by decide +kernel
theorem dX3_readLine_9 : decode cX3_readLine 9 = .ok (.istore_n 2, 1) := by decide +kernel
theorem dX3_readLine_10 : decode cX3_readLine 10 = .ok (.aload_n 0, 1) := by decide +kernel
theorem dX3_readLine_11 : decode cX3_readLine 11 = .ok (.getfield 21, 3) := by decide +kernel
theorem dX3_readLine_14 : decode cX3_readLine 14 = .ok (.iload_n 1, 1) := by decide +kernel
theorem dX3_readLine_15 : decode cX3_readLine 15 = .ok (.invokestatic 92, 3) := by decide +kernel
theorem dX3_readLine_18 : decode cX3_readLine 18 = .ok (.iload_n 1, 1) := by decide +kernel
theorem dX3_readLine_19 : decode cX3_readLine 19 = .ok (.iload_n 2, 1) := by decide +kernel
theorem dX3_readLine_20 : decode cX3_readLine 20 = .ok (.aload_n 0, 1) := by decide +kernel
theorem dX3_readLine_21 : decode cX3_readLine 21 = .ok (.bipush 8, 2) := by decide +kernel
theorem dX3_readLine_23 : decode cX3_readLine 23 = .ok (.invokevirtual 79, 3) := by decide +kernel
theorem dX3_readLine_26 : decode cX3_readLine 26 = .ok (.invokestatic 95, 3) := by decide +kernel
theorem dX3_readLine_29 : decode cX3_readLine 29 = .ok (.iload_n 1, 1) := by decide +kernel
theorem dX3_readLine_30 : decode cX3_readLine 30 = .ok (.invokestatic 99, 3) := by decide +kernel
theorem dX3_readLine_33 : decode cX3_readLine 33 = .ok (.ifCond .eq 7, 3) := by decide +kernel
theorem dX3_readLine_36 : decode cX3_readLine 36 = .ok (.iload_n 2, 1) := by decide +kernel
theorem dX3_readLine_37 : decode cX3_readLine 37 = .ok (.goto 4, 3) := by decide +kernel
theorem dX3_readLine_40 : decode cX3_readLine 40 = .ok (.iconst 0, 1) := by decide +kernel
theorem dX3_readLine_41 : decode cX3_readLine 41 = .ok (.invokevirtual 102, 3) := by decide +kernel
theorem dX3_readLine_44 : decode cX3_readLine 44 = .ok (.aload_n 0, 1) := by decide +kernel
theorem dX3_readLine_45 : decode cX3_readLine 45 = .ok (.getfield 21, 3) := by decide +kernel
theorem dX3_readLine_48 : decode cX3_readLine 48 = .ok (.getfield 106, 3) := by decide +kernel
theorem dX3_readLine_51 : decode cX3_readLine 51 = .ok (.invokevirtual 110, 3) := by decide +kernel
theorem dX3_readLine_54 : decode cX3_readLine 54 = .ok (.iload_n 1, 1) := by decide +kernel
theorem dX3_readLine_55 : decode cX3_readLine 55 = .ok (.invokestatic 115, 3) := by decide +kernel
theorem dX3_readLine_58 : decode cX3_readLine 58 = .ok (.ifCond .eq 23, 3) := by decide +kernel
theorem dX3_readLine_61 : decode cX3_readLine 61 = .ok (.aload_n 0, 1) := by decide +kernel
theorem dX3_readLine_62 : decode cX3_readLine 62 = .ok (.aload_n 0, 1) := by decide +kernel
theorem dX3_readLine_63 : decode cX3_readLine 63 = .ok (.invokevirtual 54, 3) := by decide +kernel
theorem dX3_readLine_66 : decode cX3_readLine 66 = .ok (.putfield 118, 3) := by decide +kernel
theorem dX3_readLine_69 : decode cX3_readLine 69 = .ok (.aload_n 0, 1) := by decide +kernel
theorem dX3_readLine_70 : decode cX3_readLine 70 = .ok (.invokevirtual 121, 3) := by decide +kernel
theorem dX3_readLine_73 : decode cX3_readLine 73 = .ok (.iconst 3, 1) := by decide +kernel
theorem dX3_readLine_74 : decode cX3_readLine 74 = .ok (.if_icmp .eq 7, 3) := by decide +kernel
theorem dX3_readLine_77 : decode cX3_readLine 77 = .ok (.aload_n 0, 1) := by decide +kernel
theorem dX3_readLine_78 : decode cX3_readLine 78 = .ok (.invokevirtual 124, 3) := by decide +kernel
theorem dX3_readLine_81 : decode cX3_readLine 81 = .ok (.iconst 0, 1) := by decide +kernel
theorem dX3_readLine_82 : decode cX3_readLine 82 = .ok (.istore_n 3, 1) := by decide +kernel
theorem dX3_readLine_83 : decode cX3_readLine 83 = .ok (.iload_n 3, 1) := by decide +kernel
theorem dX3_readLine_84 : decode cX3_readLine 84 = .ok (.iconst 3, 1) := by decide +kernel
theorem dX3_readLine_85 : decode cX3_readLine 85 = .ok (.if_icmp .ge 19, 3) := by decide +kernel
theorem dX3_readLine_88 : decode cX3_readLine 88 = .ok (.aload_n 0, 1) := by decide +kernel
theorem dX3_readLine_89 : decode cX3_readLine 89 = .ok (.iload_n 1, 1) := by decide +kernel
theorem dX3_readLine_90 : decode cX3_readLine 90 = .ok (.iload_n 3, 1) := by decide +kernel
theorem dX3_readLine_91 : decode cX3_readLine 91 = .ok (.invokestatic 127, 3) := by decide +kernel
theorem dX3_readLine_94 : decode cX3_readLine 94 = .ok (.iload_n 3, 1) := by decide +kernel
theorem dX3_readLine_95 : decode cX3_readLine 95 = .ok (.invokevirtual 131, 3) := by decide +kernel
theorem dX3_readLine_98 : decode cX3_readLine 98 = .ok (.iinc 3 1, 3) := by decide +kernel
theorem dX3_readLine_101 : decode cX3_readLine 101 = .ok (.goto (-18), 3) := by decide +kernel
theorem dX3_readLine_104 : decode cX3_readLine 104 = .ok (.aload_n 0, 1) := by decide +kernel
theorem dX3_readLine_105 : decode cX3_readLine 105 = .ok (.iload_n 1, 1) := by decide +kernel
theorem dX3_readLine_106 : decode cX3_readLine 106 = .ok (.aload_n 0, 1) := by decide +kernel
theorem dX3_readLine_107 : decode cX3_readLine 107 = .ok (.getfield 21, 3) := by decide +kernel
theorem dX3_readLine_110 : decode cX3_readLine 110 = .ok (.getfield 135, 3) := by decide +kernel
theorem dX3_readLine_113 : decode cX3_readLine 113 = .ok (.invokestatic 138, 3) := by decide +kernel
theorem dX3_readLine_116 : decode cX3_readLine 116 = .ok (.invokevirtual 141, 3) := by decide +kernel
theorem dX3_readLine_119 : decode cX3_readLine 119 = .ok (.return_, 1) := by decide +kernel
set_option maxRecDepth 20000 in
theorem ggX3_readMemory_X3_formMod : GoodIn wsX3_readMemory wsX3_formMod := goodIn_r _ [7, 1, 44, 45, 46, 47, 48, 49, 50, 51, 52] rfl (by decide +kernel)
set_option maxRecDepth 20000 in
theorem gX3_readMemory_X3_formMod : GoodIn wsX3_readMemory (wsV RX3 121 RX3 yX3_formMod wsX3_formMod) := goodIn_app (goodIn_of _ (by decide +kernel)) ggX3_readMemory_X3_formMod
set_option maxRecDepth 20000 in
theorem ggX3_readMemory_X3_high : GoodIn wsX3_readMemory wsX3_high := goodIn_r _ [11, 12, 13, 14, 6, 15, 16, 44, 45, 46, 47, 48, 49, 50, 51, 52] rfl (by decide +kernel)
set_option maxRecDepth 20000 in
theorem gX3_readMemory_X3_high : GoodIn wsX3_readMemory (wsV RX3 144 RX3 yX3_high wsX3_high) := goodIn_app (goodIn_of _ (by decide +kernel)) ggX3_readMemory_X3_high
set_option maxRecDepth 20000 in
theorem ggX3_readMemory_X3_nextOctet : GoodIn wsX3_readMemory wsX3_nextOctet := goodIn_r _ [20, 21, 22, 23, 24, 25, 26, 27, 28, 29, 30, 44, 45, 46, 47, 48, 49, 50, 51, 52, 60, 61] rfl (by decide +kernel)
set_option maxRecDepth 20000 in
theorem gX3_readMemory_X3_nextOctet : GoodIn wsX3_readMemory (wsV RX3 54 RX3 yX3_nextOctet wsX3_nextOctet) := goodIn_app (goodIn_of _ (by decide +kernel)) ggX3_readMemory_X3_nextOctet
set_option maxRecDepth 20000 in
theorem ggX3_readMemory_X3_nextNumber : GoodIn wsX3_readMemory wsX3_nextNumber := goodIn_r _ [34, 17, 18, 19, 6, 20, 21, 22, 23, 24, 25, 26, 27, 28, 29, 30, 44, 45, 46, 47, 48, 49, 50, 51, 52, 60, 61] rfl (by decide +kernel)
set_option maxRecDepth 20000 in
theorem gX3_readMemory_X3_nextNumber : GoodIn wsX3_readMemory (wsV RX3 147 RX3 yX3_nextNumber wsX3_nextNumber) := goodIn_app (goodIn_of _ (by decide +kernel)) ggX3_readMemory_X3_nextNumber
set_option maxRecDepth 20000 in
theorem ggX3_readMemory_X1_become : GoodIn wsX3_readMemory wsX1_become := goodIn_r _ [39, 40, 41, 42, 43, 62, 63, 64, 65] rfl (by decide +kernel)
set_option maxRecDepth 20000 in
theorem gX3_readMemory_X1_become : GoodIn wsX3_readMemory (wsV RX3 151 RX1 yX1_become wsX1_become) := goodIn_app (goodIn_of _ (by decide +kernel)) ggX3_readMemory_X1_become
theorem dX3_readMemory_0 : decode cX3_readMemory 0 = .ok (.aload_n 0, 1) := by decide +kernel
theorem dX3_readMemory_1 : decode cX3_readMemory 1 = .ok (.invokevirtual 121, 3) := by decide +kernel
theorem dX3_readMemory_4 : decode cX3_readMemory 4 = .ok (.istore_n 1, 1) := by decide +kernel
theorem dX3_readMemory_5 : decode cX3_readMemory 5 = .ok (.aload_n 0, 1) := by decide +kernel
theorem dX3_readMemory_6 : decode cX3_readMemory 6 = .ok (.getfield 118, 3) := by decide +kernel
theorem dX3_readMemory_9 : decode cX3_readMemory 9 = .ok (.bipush 7, 2) := by decide +kernel
theorem dX3_readMemory_11 : decode cX3_readMemory 11 = .ok (.iand, 1) := by decide +kernel
theorem dX3_readMemory_12 : decode cX3_readMemory 12 = .ok (.istore_n 2, 1) := by decide +kernel
theorem dX3_readMemory_13 : decode cX3_readMemory 13 = .ok (.aload_n 0, 1) := by decide +kernel
theorem dX3_readMemory_14 : decode cX3_readMemory 14 = .ok (.iconst 1, 1) := by decide +kernel
theorem dX3_readMemory_15 : decode cX3_readMemory 15 = .ok (.invokevirtual 144, 3) := by decide +kernel
theorem dX3_readMemory_18 : decode cX3_readMemory 18 = .ok (.iload_n 2, 1) := by decide +kernel
theorem dX3_readMemory_19 : decode cX3_readMemory 19 = .ok (.iadd, 1) := by decide +kernel
theorem dX3_readMemory_20 : decode cX3_readMemory 20 = .ok (.istore_n 3, 1) := by decide +kernel
theorem dX3_readMemory_21 : decode cX3_readMemory 21 = .ok (.iconst (-1), 1) := by decide +kernel
theorem dX3_readMemory_22 : decode cX3_readMemory 22 = .ok (.istore 4, 2) := by decide +kernel
theorem dX3_readMemory_24 : decode cX3_readMemory 24 = .ok (.iconst 1, 1) := by decide +kernel
theorem dX3_readMemory_25 : decode cX3_readMemory 25 = .ok (.istore 5, 2) := by decide +kernel
theorem dX3_readMemory_27 : decode cX3_readMemory 27 = .ok (.iload_n 2, 1) := by decide +kernel
theorem dX3_readMemory_28 : decode cX3_readMemory 28 = .ok (.iconst 4, 1) := by decide +kernel
theorem dX3_readMemory_29 : decode cX3_readMemory 29 = .ok (.if_icmp .ne 75, 3) := by decide +kernel
theorem dX3_readMemory_32 : decode cX3_readMemory 32 = .ok (.aload_n 0, 1) := by decide +kernel
theorem dX3_readMemory_33 : decode cX3_readMemory 33 = .ok (.invokevirtual 54, 3) := by decide +kernel
theorem dX3_readMemory_36 : decode cX3_readMemory 36 = .ok (.istore 6, 2) := by decide +kernel
theorem dX3_readMemory_38 : decode cX3_readMemory 38 = .ok (.aload_n 0, 1) := by decide +kernel
theorem dX3_readMemory_39 : decode cX3_readMemory 39 = .ok (.iconst 2, 1) := by decide +kernel
theorem dX3_readMemory_40 : decode cX3_readMemory 40 = .ok (.invokevirtual 144, 3) := by decide +kernel
theorem dX3_readMemory_43 : decode cX3_readMemory 43 = .ok (.iload 6, 2) := by decide +kernel
theorem dX3_readMemory_45 : decode cX3_readMemory 45 = .ok (.iconst 3, 1) := by decide +kernel
theorem dX3_readMemory_46 : decode cX3_readMemory 46 = .ok (.ishr, 1) := by decide +kernel
theorem dX3_readMemory_47 : decode cX3_readMemory 47 = .ok (.bipush 7, 2) := by decide +kernel
theorem dX3_readMemory_49 : decode cX3_readMemory 49 = .ok (.iand, 1) := by decide +kernel
theorem dX3_readMemory_50 : decode cX3_readMemory 50 = .ok (.iadd, 1) := by decide +kernel
theorem dX3_readMemory_51 : decode cX3_readMemory 51 = .ok (.istore 7, 2) := by decide +kernel
theorem dX3_readMemory_53 : decode cX3_readMemory 53 = .ok (.iload 7, 2) := by decide +kernel
theorem dX3_readMemory_55 : decode cX3_readMemory 55 = .ok (.iconst 4, 1) := by decide +kernel
theorem dX3_readMemory_56 : decode cX3_readMemory 56 = .ok (.if_icmp .eq 16, 3) := by decide +kernel
theorem dX3_readMemory_59 : decode cX3_readMemory 59 = .ok (.iload 7, 2) := by decide +kernel
theorem dX3_readMemory_61 : decode cX3_readMemory 61 = .ok (.istore 4, 2) := by decide +kernel
theorem dX3_readMemory_63 : decode cX3_readMemory 63 = .ok (.iconst 1, 1) := by decide +kernel
theorem dX3_readMemory_64 : decode cX3_readMemory 64 = .ok (.iload 6, 2) := by decide +kernel
theorem dX3_readMemory_66 : decode cX3_readMemory 66 = .ok (.bipush 6, 2) := by decide +kernel
theorem dX3_readMemory_68 : decode cX3_readMemory 68 = .ok (.ishr, 1) := by decide +kernel
theorem dX3_readMemory_69 : decode cX3_readMemory 69 = .ok (.ishl, 1) := by decide +kernel
theorem dX3_readMemory_70 : decode cX3_readMemory 70 = .ok (.istore 5, 2) := by decide +kernel
theorem dX3_readMemory_72 : decode cX3_readMemory 72 = .ok (.iload_n 1, 1) := by decide +kernel
theorem dX3_readMemory_73 : decode cX3_readMemory 73 = .ok (.ifCond .ne 16, 3) := by decide +kernel
theorem dX3_readMemory_76 : decode cX3_readMemory 76 = .ok (.iload 6, 2) := by decide +kernel
theorem dX3_readMemory_78 : decode cX3_readMemory 78 = .ok (.bipush 7, 2) := by decide +kernel
theorem dX3_readMemory_80 : decode cX3_readMemory 80 = .ok (.iand, 1) := by decide +kernel
theorem dX3_readMemory_81 : decode cX3_readMemory 81 = .ok (.iconst 5, 1) := by decide +kernel
theorem dX3_readMemory_82 : decode cX3_readMemory 82 = .ok (.if_icmp .ne 7, 3) := by decide +kernel
theorem dX3_readMemory_85 : decode cX3_readMemory 85 = .ok (.iconst (-1), 1) := by decide +kernel
theorem dX3_readMemory_86 : decode cX3_readMemory 86 = .ok (.goto 14, 3) := by decide +kernel
theorem dX3_readMemory_89 : decode cX3_readMemory 89 = .ok (.aload_n 0, 1) := by decide +kernel
theorem dX3_readMemory_90 : decode cX3_readMemory 90 = .ok (.iconst 1, 1) := by decide +kernel
theorem dX3_readMemory_91 : decode cX3_readMemory 91 = .ok (.invokevirtual 144, 3) := by decide +kernel
theorem dX3_readMemory_94 : decode cX3_readMemory 94 = .ok (.iload 6, 2) := by decide +kernel
theorem dX3_readMemory_96 : decode cX3_readMemory 96 = .ok (.bipush 7, 2) := by decide +kernel
theorem dX3_readMemory_98 : decode cX3_readMemory 98 = .ok (.iand, 1) := by decide +kernel
theorem dX3_readMemory_99 : decode cX3_readMemory 99 = .ok (.iadd, 1) := by decide +kernel
theorem dX3_readMemory_100 : decode cX3_readMemory 100 = .ok (.istore_n 3, 1) := by decide +kernel
theorem dX3_readMemory_101 : decode cX3_readMemory 101 = .ok (.goto 15, 3) := by decide +kernel
theorem dX3_readMemory_104 : decode cX3_readMemory 104 = .ok (.iload_n 2, 1) := by decide +kernel
theorem dX3_readMemory_105 : decode cX3_readMemory 105 = .ok (.iconst 5, 1) := by decide +kernel
theorem dX3_readMemory_106 : decode cX3_readMemory 106 = .ok (.if_icmp .ne 10, 3) := by decide +kernel
theorem dX3_readMemory_109 : decode cX3_readMemory 109 = .ok (.iload_n 1, 1) := by decide +kernel
theorem dX3_readMemory_110 : decode cX3_readMemory 110 = .ok (.ifCond .ne 6, 3) := by decide +kernel
theorem dX3_readMemory_113 : decode cX3_readMemory 113 = .ok (.bipush 16, 2) := by decide +kernel
theorem dX3_readMemory_115 : decode cX3_readMemory 115 = .ok (.istore_n 3, 1) := by decide +kernel
theorem dX3_readMemory_116 : decode cX3_readMemory 116 = .ok (.iload_n 1, 1) := by decide +kernel
theorem dX3_readMemory_117 : decode cX3_readMemory 117 = .ok (.iconst 2, 1) := by decide +kernel
theorem dX3_readMemory_118 : decode cX3_readMemory 118 = .ok (.if_icmp .eq 14, 3) := by decide +kernel
theorem dX3_readMemory_121 : decode cX3_readMemory 121 = .ok (.iload_n 3, 1) := by decide +kernel
theorem dX3_readMemory_122 : decode cX3_readMemory 122 = .ok (.iconst (-1), 1) := by decide +kernel
theorem dX3_readMemory_123 : decode cX3_readMemory 123 = .ok (.if_icmp .eq 9, 3) := by decide +kernel
theorem dX3_readMemory_126 : decode cX3_readMemory 126 = .ok (.iload_n 3, 1) := by decide +kernel
theorem dX3_readMemory_127 : decode cX3_readMemory 127 = .ok (.bipush 16, 2) := by decide +kernel
theorem dX3_readMemory_129 : decode cX3_readMemory 129 = .ok (.if_icmp .ne 7, 3) := by decide +kernel
theorem dX3_readMemory_132 : decode cX3_readMemory 132 = .ok (.iconst 1, 1) := by decide +kernel
theorem dX3_readMemory_133 : decode cX3_readMemory 133 = .ok (.goto 4, 3) := by decide +kernel
theorem dX3_readMemory_136 : decode cX3_readMemory 136 = .ok (.iconst 0, 1) := by decide +kernel
theorem dX3_readMemory_137 : decode cX3_readMemory 137 = .ok (.istore 6, 2) := by decide +kernel
theorem dX3_readMemory_139 : decode cX3_readMemory 139 = .ok (.iload 6, 2) := by decide +kernel
theorem dX3_readMemory_141 : decode cX3_readMemory 141 = .ok (.ifCond .eq 7, 3) := by decide +kernel
theorem dX3_readMemory_144 : decode cX3_readMemory 144 = .ok (.iconst 4, 1) := by decide +kernel
theorem dX3_readMemory_145 : decode cX3_readMemory 145 = .ok (.goto 13, 3) := by decide +kernel
theorem dX3_readMemory_148 : decode cX3_readMemory 148 = .ok (.iload_n 1, 1) := by decide +kernel
theorem dX3_readMemory_149 : decode cX3_readMemory 149 = .ok (.iconst 1, 1) := by decide +kernel
theorem dX3_readMemory_150 : decode cX3_readMemory 150 = .ok (.if_icmp .ne 7, 3) := by decide +kernel
theorem dX3_readMemory_153 : decode cX3_readMemory 153 = .ok (.iconst 1, 1) := by decide +kernel
theorem dX3_readMemory_154 : decode cX3_readMemory 154 = .ok (.goto 4, 3) := by decide +kernel
theorem dX3_readMemory_157 : decode cX3_readMemory 157 = .ok (.iconst 0, 1) := by decide +kernel
theorem dX3_readMemory_158 : decode cX3_readMemory 158 = .ok (.istore 7, 2) := by decide +kernel
theorem dX3_readMemory_160 : decode cX3_readMemory 160 = .ok (.aload_n 0, 1) := by decide +kernel
theorem dX3_readMemory_161 : decode cX3_readMemory 161 = .ok (.getfield 21, 3) := by decide +kernel
theorem dX3_readMemory_164 : decode cX3_readMemory 164 = .ok (.getfield 106, 3) := by decide +kernel
theorem dX3_readMemory_167 : decode cX3_readMemory 167 = .ok (.iload_n 3, 1) := by decide +kernel
theorem dX3_readMemory_168 : decode cX3_readMemory 168 = .ok (.iload 4, 2) := by decide +kernel
theorem dX3_readMemory_170 : decode cX3_readMemory 170 = .ok (.iload 5, 2) := by decide +kernel
theorem dX3_readMemory_172 : decode cX3_readMemory 172 = .ok (.aload_n 0, 1) := by decide +kernel
theorem dX3_readMemory_173 : decode cX3_readMemory 173 = .ok (.iload 7, 2) := by decide +kernel
theorem dX3_readMemory_175 : decode cX3_readMemory 175 = .ok (.iconst 1, 1) := by decide +kernel
theorem dX3_readMemory_176 : decode cX3_readMemory 176 = .ok (.invokevirtual 147, 3) := by decide +kernel
theorem dX3_readMemory_179 : decode cX3_readMemory 179 = .ok (.l2i, 1) := by decide +kernel
theorem dX3_readMemory_180 : decode cX3_readMemory 180 = .ok (.invokevirtual 151, 3) := by decide +kernel
theorem dX3_readMemory_183 : decode cX3_readMemory 183 = .ok (.return_, 1) := by decide +kernel
set_option maxRecDepth 20000 in
theorem ggX3_readOperand_X3_high : GoodIn wsX3_readOperand wsX3_high := goodIn_r _ [8, 9, 10, 11, 7, 12, 13, 39, 40, 41, 42, 43, 44, 45, 46, 47] rfl (by decide +kernel)
set_option maxRecDepth 20000 in
theorem gX3_readOperand_X3_high : GoodIn wsX3_readOperand (wsV RX3 144 RX3 yX3_high wsX3_high) := goodIn_app (goodIn_of _ (by decide +kernel)) ggX3_readOperand_X3_high
set_option maxRecDepth 20000 in
theorem ggX3_readOperand_X3_readRegister : GoodIn wsX3_readOperand wsX3_readRegister := goodIn_r _ [17, 18, 3, 19, 20, 21, 22, 23, 24, 25, 26, 27, 28, 29, 30, 39, 40, 41, 42, 43, 44, 45, 46, 47, 48, 49, 50, 51, 52, 53, 54] rfl (by decide +kernel)
set_option maxRecDepth 20000 in
theorem gX3_readOperand_X3_readRegister : GoodIn wsX3_readOperand (wsV RX3 155 RX3 yX3_readRegister wsX3_readRegister) := goodIn_app (goodIn_of _ (by decide +kernel)) ggX3_readOperand_X3_readRegister
set_option maxRecDepth 20000 in
theorem ggX3_readOperand_X3_readFormOperand : GoodIn wsX3_readOperand wsX3_readFormOperand := goodIn_r _ [34, 3, 19, 1, 35, 36, 37, 7, 38, 24, 25, 26, 27, 28, 29, 30, 4, 5, 6, 8, 9, 10, 11, 12, 13, 14, 15, 16, 17, 18, 20, 21, 22, 23, 39, 40, 41, 42, 43, 44, 45, 46, 47, 48, 49, 50, 51, 52, 53, 54] rfl (by decide +kernel)
set_option maxRecDepth 20000 in
theorem gX3_readOperand_X3_readFormOperand : GoodIn wsX3_readOperand (wsV RX3 158 RX3 yX3_readFormOperand wsX3_readFormOperand) := goodIn_app (goodIn_of _ (by decide +kernel)) ggX3_readOperand_X3_readFormOperand
set_option maxRecDepth 20000 in
theorem ggX3_readOperand_X0_setOperand : GoodIn wsX3_readOperand wsX0_setOperand := goodIn_r _ [28, 29, 30, 48, 49, 50, 51, 52, 53, 54] rfl (by decide +kernel)
set_option maxRecDepth 20000 in
theorem gX3_readOperand_X0_setOperand : GoodIn wsX3_readOperand (wsV RX3 161 RX0 yX0_setOperand wsX0_setOperand) := goodIn_app (goodIn_of _ (by decide +kernel)) ggX3_readOperand_X0_setOperand
theorem dX3_readOperand_0 : decode cX3_readOperand 0 = .ok (.iload_n 1, 1) := by decide +kernel
theorem dX3_readOperand_1 : decode cX3_readOperand 1 = .ok (.tableswitch 141 1 8 #[47, 93, 93, 93, 71, 102, 115, 128], 47) := by decide +kernel
theorem dX3_readOperand_48 : decode cX3_readOperand 48 = .ok (.aload_n 0, 1) := by decide +kernel
theorem dX3_readOperand_49 : decode cX3_readOperand 49 = .ok (.iload_n 1, 1) := by decide +kernel
theorem dX3_readOperand_50 : decode cX3_readOperand 50 = .ok (.iload_n 2, 1) := by decide +kernel
theorem dX3_readOperand_51 : decode cX3_readOperand 51 = .ok (.aload_n 0, 1) := by decide +kernel
theorem dX3_readOperand_52 : decode cX3_readOperand 52 = .ok (.iconst 4, 1) := by decide +kernel
theorem dX3_readOperand_53 : decode cX3_readOperand 53 = .ok (.invokevirtual 144, 3) := by decide +kernel
theorem dX3_readOperand_56 : decode cX3_readOperand 56 = .ok (.aload_n 0, 1) := by decide +kernel
theorem dX3_readOperand_57 : decode cX3_readOperand 57 = .ok (.getfield 118, 3) := by decide +kernel
theorem dX3_readOperand_60 : decode cX3_readOperand 60 = .ok (.iconst 3, 1) := by decide +kernel
theorem dX3_readOperand_61 : decode cX3_readOperand 61 = .ok (.ishr, 1) := by decide +kernel
theorem dX3_readOperand_62 : decode cX3_readOperand 62 = .ok (.bipush 7, 2) := by decide +kernel
theorem dX3_readOperand_64 : decode cX3_readOperand 64 = .ok (.iand, 1) := by decide +kernel
theorem dX3_readOperand_65 : decode cX3_readOperand 65 = .ok (.iadd, 1) := by decide +kernel
theorem dX3_readOperand_66 : decode cX3_readOperand 66 = .ok (.invokevirtual 155, 3) := by decide +kernel
theorem dX3_readOperand_69 : decode cX3_readOperand 69 = .ok (.goto 73, 3) := by decide +kernel
theorem dX3_readOperand_72 : decode cX3_readOperand 72 = .ok (.aload_n 0, 1) := by decide +kernel
theorem dX3_readOperand_73 : decode cX3_readOperand 73 = .ok (.iload_n 1, 1) := by decide +kernel
theorem dX3_readOperand_74 : decode cX3_readOperand 74 = .ok (.iload_n 2, 1) := by decide +kernel
theorem dX3_readOperand_75 : decode cX3_readOperand 75 = .ok (.aload_n 0, 1) := by decide +kernel
theorem dX3_readOperand_76 : decode cX3_readOperand 76 = .ok (.iconst 1, 1) := by decide +kernel
theorem dX3_readOperand_77 : decode cX3_readOperand 77 = .ok (.invokevirtual 144, 3) := by decide +kernel
theorem dX3_readOperand_80 : decode cX3_readOperand 80 = .ok (.aload_n 0, 1) := by decide +kernel
theorem dX3_readOperand_81 : decode cX3_readOperand 81 = .ok (.getfield 60, 3) := by decide +kernel
theorem dX3_readOperand_84 : decode cX3_readOperand 84 = .ok (.bipush 7, 2) := by decide +kernel
theorem dX3_readOperand_86 : decode cX3_readOperand 86 = .ok (.iand, 1) := by decide +kernel
theorem dX3_readOperand_87 : decode cX3_readOperand 87 = .ok (.iadd, 1) := by decide +kernel
theorem dX3_readOperand_88 : decode cX3_readOperand 88 = .ok (.invokevirtual 155, 3) := by decide +kernel
theorem dX3_readOperand_91 : decode cX3_readOperand 91 = .ok (.goto 51, 3) := by decide +kernel
theorem dX3_readOperand_94 : decode cX3_readOperand 94 = .ok (.aload_n 0, 1) := by decide +kernel
theorem dX3_readOperand_95 : decode cX3_readOperand 95 = .ok (.iload_n 1, 1) := by decide +kernel
theorem dX3_readOperand_96 : decode cX3_readOperand 96 = .ok (.iload_n 2, 1) := by decide +kernel
theorem dX3_readOperand_97 : decode cX3_readOperand 97 = .ok (.invokevirtual 158, 3) := by decide +kernel
theorem dX3_readOperand_100 : decode cX3_readOperand 100 = .ok (.goto 42, 3) := by decide +kernel
theorem dX3_readOperand_103 : decode cX3_readOperand 103 = .ok (.aload_n 0, 1) := by decide +kernel
theorem dX3_readOperand_104 : decode cX3_readOperand 104 = .ok (.getfield 21, 3) := by decide +kernel
theorem dX3_readOperand_107 : decode cX3_readOperand 107 = .ok (.iload_n 2, 1) := by decide +kernel
theorem dX3_readOperand_108 : decode cX3_readOperand 108 = .ok (.iconst 1, 1) := by decide +kernel
theorem dX3_readOperand_109 : decode cX3_readOperand 109 = .ok (.iconst 0, 1) := by decide +kernel
theorem dX3_readOperand_110 : decode cX3_readOperand 110 = .ok (.invokevirtual 161, 3) := by decide +kernel
theorem dX3_readOperand_113 : decode cX3_readOperand 113 = .ok (.goto 29, 3) := by decide +kernel
theorem dX3_readOperand_116 : decode cX3_readOperand 116 = .ok (.aload_n 0, 1) := by decide +kernel
theorem dX3_readOperand_117 : decode cX3_readOperand 117 = .ok (.getfield 21, 3) := by decide +kernel
theorem dX3_readOperand_120 : decode cX3_readOperand 120 = .ok (.iload_n 2, 1) := by decide +kernel
theorem dX3_readOperand_121 : decode cX3_readOperand 121 = .ok (.iconst 1, 1) := by decide +kernel
theorem dX3_readOperand_122 : decode cX3_readOperand 122 = .ok (.iconst 1, 1) := by decide +kernel
theorem dX3_readOperand_123 : decode cX3_readOperand 123 = .ok (.invokevirtual 161, 3) := by decide +kernel
theorem dX3_readOperand_126 : decode cX3_readOperand 126 = .ok (.goto 16, 3) := by decide +kernel
theorem dX3_readOperand_129 : decode cX3_readOperand 129 = .ok (.aload_n 0, 1) := by decide +kernel
theorem dX3_readOperand_130 : decode cX3_readOperand 130 = .ok (.getfield 21, 3) := by decide +kernel
theorem dX3_readOperand_133 : decode cX3_readOperand 133 = .ok (.iload_n 2, 1) := by decide +kernel
theorem dX3_readOperand_134 : decode cX3_readOperand 134 = .ok (.iconst 3, 1) := by decide +kernel
theorem dX3_readOperand_135 : decode cX3_readOperand 135 = .ok (.iconst 0, 1) := by decide +kernel
theorem dX3_readOperand_136 : decode cX3_readOperand 136 = .ok (.invokevirtual 161, 3) := by decide +kernel
theorem dX3_readOperand_139 : decode cX3_readOperand 139 = .ok (.goto 3, 3) := by decide +kernel
theorem dX3_readOperand_142 : decode cX3_readOperand 142 = .ok (.return_, 1) := by decide +kernel
set_option maxRecDepth 20000 in
theorem ggX3_readFormOperand_X3_formMod : GoodIn wsX3_readFormOperand wsX3_formMod := goodIn_r _ [8, 3, 34, 35, 36, 37, 38, 39, 40, 41, 42] rfl (by decide +kernel)
set_option maxRecDepth 20000 in
theorem gX3_readFormOperand_X3_formMod : GoodIn wsX3_readFormOperand (wsV RX3 121 RX3 yX3_formMod wsX3_formMod) := goodIn_app (goodIn_of _ (by decide +kernel)) ggX3_readFormOperand_X3_formMod
set_option maxRecDepth 20000 in
theorem ggX3_readFormOperand_X0_setOperand : GoodIn wsX3_readFormOperand wsX0_setOperand := goodIn_r _ [13, 14, 15, 43, 44, 45, 46, 47, 48, 49] rfl (by decide +kernel)
set_option maxRecDepth 20000 in
theorem gX3_readFormOperand_X0_setOperand : GoodIn wsX3_readFormOperand (wsV RX3 161 RX0 yX0_setOperand wsX0_setOperand) := goodIn_app (goodIn_of _ (by decide +kernel)) ggX3_readFormOperand_X0_setOperand
set_option maxRecDepth 20000 in
theorem ggX3_readFormOperand_X3_high : GoodIn wsX3_readFormOperand wsX3_high := goodIn_r _ [19, 20, 21, 22, 7, 23, 24, 34, 35, 36, 37, 38, 39, 40, 41, 42] rfl (by decide +kernel)
set_option maxRecDepth 20000 in
theorem gX3_readFormOperand_X3_high : GoodIn wsX3_readFormOperand (wsV RX3 144 RX3 yX3_high wsX3_high) := goodIn_app (goodIn_of _ (by decide +kernel)) ggX3_readFormOperand_X3_high
set_option maxRecDepth 20000 in
theorem ggX3_readFormOperand_X3_readRegister : GoodIn wsX3_readFormOperand wsX3_readRegister := goodIn_r _ [28, 29, 1, 2, 30, 31, 32, 33, 9, 10, 11, 12, 13, 14, 15, 34, 35, 36, 37, 38, 39, 40, 41, 42, 43, 44, 45, 46, 47, 48, 49] rfl (by decide +kernel)
set_option maxRecDepth 20000 in
theorem gX3_readFormOperand_X3_readRegister : GoodIn wsX3_readFormOperand (wsV RX3 155 RX3 yX3_readRegister wsX3_readRegister) := goodIn_app (goodIn_of _ (by decide +kernel)) ggX3_readFormOperand_X3_readRegister
theorem dX3_readFormOperand_0 : decode cX3_readFormOperand 0 = .ok (.aload_n 0, 1) := by decide +kernel
theorem dX3_readFormOperand_1 : decode cX3_readFormOperand 1 = .ok (.invokevirtual 121, 3) := by decide +kernel
theorem dX3_readFormOperand_4 : decode cX3_readFormOperand 4 = .ok (.iconst 3, 1) := by decide +kernel
theorem dX3_readFormOperand_5 : decode cX3_readFormOperand 5 = .ok (.if_icmp .eq 16, 3) := by decide +kernel
theorem dX3_readFormOperand_8 : decode cX3_readFormOperand 8 = .ok (.aload_n 0, 1) := by decide +kernel
theorem dX3_readFormOperand_9 : decode cX3_readFormOperand 9 = .ok (.getfield 21, 3) := by decide +kernel
theorem dX3_readFormOperand_12 : decode cX3_readFormOperand 12 = .ok (.iload_n 2, 1) := by decide +kernel
theorem dX3_readFormOperand_13 : decode cX3_readFormOperand 13 = .ok (.iconst 2, 1) := by decide +kernel
theorem dX3_readFormOperand_14 : decode cX3_readFormOperand 14 = .ok (.iconst 0, 1) := by decide +kernel
theorem dX3_readFormOperand_15 : decode cX3_readFormOperand 15 = .ok (.invokevirtual 161, 3) := by decide +kernel
theorem dX3_readFormOperand_18 : decode cX3_readFormOperand 18 = .ok (.goto 35, 3) := by decide +kernel
theorem dX3_readFormOperand_21 : decode cX3_readFormOperand 21 = .ok (.iload_n 1, 1) := by decide +kernel
theorem dX3_readFormOperand_22 : decode cX3_readFormOperand 22 = .ok (.iconst 4, 1) := by decide +kernel
theorem dX3_readFormOperand_23 : decode cX3_readFormOperand 23 = .ok (.if_icmp .ne 11, 3) := by decide +kernel
theorem dX3_readFormOperand_26 : decode cX3_readFormOperand 26 = .ok (.aload_n 0, 1) := by decide +kernel
theorem dX3_readFormOperand_27 : decode cX3_readFormOperand 27 = .ok (.iconst 1, 1) := by decide +kernel
theorem dX3_readFormOperand_28 : decode cX3_readFormOperand 28 = .ok (.putfield 29, 3) := by decide +kernel
theorem dX3_readFormOperand_31 : decode cX3_readFormOperand 31 = .ok (.goto 22, 3) := by decide +kernel
theorem dX3_readFormOperand_34 : decode cX3_readFormOperand 34 = .ok (.aload_n 0, 1) := by decide +kernel
theorem dX3_readFormOperand_35 : decode cX3_readFormOperand 35 = .ok (.iload_n 1, 1) := by decide +kernel
theorem dX3_readFormOperand_36 : decode cX3_readFormOperand 36 = .ok (.iload_n 2, 1) := by decide +kernel
theorem dX3_readFormOperand_37 : decode cX3_readFormOperand 37 = .ok (.aload_n 0, 1) := by decide +kernel
theorem dX3_readFormOperand_38 : decode cX3_readFormOperand 38 = .ok (.iconst 1, 1) := by decide +kernel
theorem dX3_readFormOperand_39 : decode cX3_readFormOperand 39 = .ok (.invokevirtual 144, 3) := by decide +kernel
theorem dX3_readFormOperand_42 : decode cX3_readFormOperand 42 = .ok (.aload_n 0, 1) := by decide +kernel
theorem dX3_readFormOperand_43 : decode cX3_readFormOperand 43 = .ok (.getfield 118, 3) := by decide +kernel
theorem dX3_readFormOperand_46 : decode cX3_readFormOperand 46 = .ok (.bipush 7, 2) := by decide +kernel
theorem dX3_readFormOperand_48 : decode cX3_readFormOperand 48 = .ok (.iand, 1) := by decide +kernel
theorem dX3_readFormOperand_49 : decode cX3_readFormOperand 49 = .ok (.iadd, 1) := by decide +kernel
theorem dX3_readFormOperand_50 : decode cX3_readFormOperand 50 = .ok (.invokevirtual 155, 3) := by decide +kernel
theorem dX3_readFormOperand_53 : decode cX3_readFormOperand 53 = .ok (.return_, 1) := by decide +kernel
set_option maxRecDepth 20000 in
theorem ggX3_readRegister_X4_needsAnyPrefix : GoodIn wsX3_readRegister wsX4_needsAnyPrefix := goodIn_r _ [7] rfl (by decide +kernel)
set_option maxRecDepth 20000 in
theorem gX3_readRegister_X4_needsAnyPrefix : GoodIn wsX3_readRegister (va_wsS RX3 164 yX4_needsAnyPrefix wsX4_needsAnyPrefix) := goodIn_app (goodIn_of _ (by decide +kernel)) ggX3_readRegister_X4_needsAnyPrefix
set_option maxRecDepth 20000 in
theorem ggX3_readRegister_X0_setOperand : GoodIn wsX3_readRegister wsX0_setOperand := goodIn_r _ [12, 13, 14, 24, 25, 26, 27, 28, 29, 30] rfl (by decide +kernel)
set_option maxRecDepth 20000 in
theorem gX3_readRegister_X0_setOperand : GoodIn wsX3_readRegister (wsV RX3 161 RX0 yX0_setOperand wsX0_setOperand) := goodIn_app (goodIn_of _ (by decide +kernel)) ggX3_readRegister_X0_setOperand
theorem dX3_readRegister_0 : decode cX3_readRegister 0 = .ok (.aload_n 0, 1) := by decide +kernel
theorem dX3_readRegister_1 : decode cX3_readRegister 1 = .ok (.getfield 51, 3) := by decide +kernel
theorem dX3_readRegister_4 : decode cX3_readRegister 4 = .ok (.ifCond .ne 23, 3) := by decide +kernel
theorem dX3_readRegister_7 : decode cX3_readRegister 7 = .ok (.iload_n 1, 1) := by decide +kernel
theorem dX3_readRegister_8 : decode cX3_readRegister 8 = .ok (.aload_n 0, 1) := by decide +kernel
theorem dX3_readRegister_9 : decode cX3_readRegister 9 = .ok (.getfield 21, 3) := by decide +kernel
theorem dX3_readRegister_12 : decode cX3_readRegister 12 = .ok (.getfield 135, 3) := by decide +kernel
theorem dX3_readRegister_15 : decode cX3_readRegister 15 = .ok (.iload_n 3, 1) := by decide +kernel
theorem dX3_readRegister_16 : decode cX3_readRegister 16 = .ok (.invokestatic 164, 3) := by decide +kernel
theorem dX3_readRegister_19 : decode cX3_readRegister 19 = .ok (.ifCond .eq 8, 3) := by decide +kernel
theorem dX3_readRegister_22 : decode cX3_readRegister 22 = .ok (.aload_n 0, 1) := by decide +kernel
theorem dX3_readRegister_23 : decode cX3_readRegister 23 = .ok (.iconst 1, 1) := by decide +kernel
theorem dX3_readRegister_24 : decode cX3_readRegister 24 = .ok (.putfield 29, 3) := by decide +kernel
theorem dX3_readRegister_27 : decode cX3_readRegister 27 = .ok (.aload_n 0, 1) := by decide +kernel
theorem dX3_readRegister_28 : decode cX3_readRegister 28 = .ok (.getfield 21, 3) := by decide +kernel
theorem dX3_readRegister_31 : decode cX3_readRegister 31 = .ok (.iload_n 2, 1) := by decide +kernel
theorem dX3_readRegister_32 : decode cX3_readRegister 32 = .ok (.iconst 1, 1) := by decide +kernel
theorem dX3_readRegister_33 : decode cX3_readRegister 33 = .ok (.iload_n 3, 1) := by decide +kernel
theorem dX3_readRegister_34 : decode cX3_readRegister 34 = .ok (.invokevirtual 161, 3) := by decide +kernel
theorem dX3_readRegister_37 : decode cX3_readRegister 37 = .ok (.return_, 1) := by decide +kernel
set_option maxRecDepth 20000 in
theorem ggX3_readNumber_X4_numberWidth : GoodIn wsX3_readNumber wsX4_numberWidth := goodIn_r _ [5] rfl (by decide +kernel)
set_option maxRecDepth 20000 in
theorem gX3_readNumber_X4_numberWidth : GoodIn wsX3_readNumber (va_wsS RX3 172 yX4_numberWidth wsX4_numberWidth) := goodIn_app (goodIn_of _ (by decide +kernel)) ggX3_readNumber_X4_numberWidth
set_option maxRecDepth 20000 in
theorem ggX3_readNumber_X4_numberHasSign : GoodIn wsX3_readNumber wsX4_numberHasSign := goodIn_r _ [8] rfl (by decide +kernel)
set_option maxRecDepth 20000 in
theorem gX3_readNumber_X4_numberHasSign : GoodIn wsX3_readNumber (va_wsS RX3 175 yX4_numberHasSign wsX4_numberHasSign) := goodIn_app (goodIn_of _ (by decide +kernel)) ggX3_readNumber_X4_numberHasSign
set_option maxRecDepth 20000 in
theorem ggX3_readNumber_X3_nextNumber : GoodIn wsX3_readNumber wsX3_nextNumber := goodIn_r _ [13, 14, 15, 16, 12, 17, 18, 19, 20, 21, 22, 23, 24, 25, 26, 27, 28, 29, 30, 31, 32, 33, 34, 35, 36, 44, 45] rfl (by decide +kernel)
set_option maxRecDepth 20000 in
theorem gX3_readNumber_X3_nextNumber : GoodIn wsX3_readNumber (wsV RX3 147 RX3 yX3_nextNumber wsX3_nextNumber) := goodIn_app (goodIn_of _ (by decide +kernel)) ggX3_readNumber_X3_nextNumber
theorem dX3_readNumber_0 : decode cX3_readNumber 0 = .ok (.iload_n 1, 1) := by decide +kernel
theorem dX3_readNumber_1 : decode cX3_readNumber 1 = .ok (.bipush 7, 2) := by decide +kernel
theorem dX3_readNumber_3 : decode cX3_readNumber 3 = .ok (.if_icmp .ne 14, 3) := by decide +kernel
theorem dX3_readNumber_6 : decode cX3_readNumber 6 = .ok (.aload_n 0, 1) := by decide +kernel
theorem dX3_readNumber_7 : decode cX3_readNumber 7 = .ok (.getfield 21, 3) := by decide +kernel
theorem dX3_readNumber_10 : decode cX3_readNumber 10 = .ok (.lconst 1, 1) := by decide +kernel
theorem dX3_readNumber_11 : decode cX3_readNumber 11 = .ok (.putfield 168, 3) := by decide +kernel
theorem dX3_readNumber_14 : decode cX3_readNumber 14 = .ok (.goto 24, 3) := by decide +kernel
theorem dX3_readNumber_17 : decode cX3_readNumber 17 = .ok (.iload_n 1, 1) := by decide +kernel
theorem dX3_readNumber_18 : decode cX3_readNumber 18 = .ok (.invokestatic 172, 3) := by decide +kernel
theorem dX3_readNumber_21 : decode cX3_readNumber 21 = .ok (.istore_n 2, 1) := by decide +kernel
theorem dX3_readNumber_22 : decode cX3_readNumber 22 = .ok (.aload_n 0, 1) := by decide +kernel
theorem dX3_readNumber_23 : decode cX3_readNumber 23 = .ok (.getfield 21, 3) := by decide +kernel
theorem dX3_readNumber_26 : decode cX3_readNumber 26 = .ok (.aload_n 0, 1) := by decide +kernel
theorem dX3_readNumber_27 : decode cX3_readNumber 27 = .ok (.iload_n 2, 1) := by decide +kernel
theorem dX3_readNumber_28 : decode cX3_readNumber 28 = .ok (.iload_n 1, 1) := by decide +kernel
theorem dX3_readNumber_29 : decode cX3_readNumber 29 = .ok (.invokestatic 175, 3) := by decide +kernel
theorem dX3_readNumber_32 : decode cX3_readNumber 32 = .ok (.invokevirtual 147, 3) := by decide +kernel
theorem dX3_readNumber_35 : decode cX3_readNumber 35 = .ok (.putfield 168, 3) := by decide +kernel
theorem dX3_readNumber_38 : decode cX3_readNumber 38 = .ok (.return_, 1) := by decide +kernel
theorem dX3_formMod_0 : decode cX3_formMod 0 = .ok (.aload_n 0, 1) := by decide +kernel
theorem dX3_formMod_1 : decode cX3_formMod 1 = .ok (.getfield 118, 3) := by decide +kernel
theorem dX3_formMod_4 : decode cX3_formMod 4 = .ok (.bipush 6, 2) := by decide +kernel
theorem dX3_formMod_6 : decode cX3_formMod 6 = .ok (.ishr, 1) := by decide +kernel
theorem dX3_formMod_7 : decode cX3_formMod 7 = .ok (.iconst 3, 1) := by decide +kernel
theorem dX3_formMod_8 : decode cX3_formMod 8 = .ok (.iand, 1) := by decide +kernel
theorem dX3_formMod_9 : decode cX3_formMod 9 = .ok (.ireturn, 1) := by decide +kernel
theorem dX3_hasBit_0 : decode cX3_hasBit 0 = .ok (.aload_n 0, 1) := by decide +kernel
theorem dX3_hasBit_1 : decode cX3_hasBit 1 = .ok (.getfield 57, 3) := by decide +kernel
theorem dX3_hasBit_4 : decode cX3_hasBit 4 = .ok (.iload_n 1, 1) := by decide +kernel
theorem dX3_hasBit_5 : decode cX3_hasBit 5 = .ok (.iand, 1) := by decide +kernel
theorem dX3_hasBit_6 : decode cX3_hasBit 6 = .ok (.ifCond .eq 7, 3) := by decide +kernel
theorem dX3_hasBit_9 : decode cX3_hasBit 9 = .ok (.iconst 1, 1) := by decide +kernel
theorem dX3_hasBit_10 : decode cX3_hasBit 10 = .ok (.goto 4, 3) := by decide +kernel
theorem dX3_hasBit_13 : decode cX3_hasBit 13 = .ok (.iconst 0, 1) := by decide +kernel
theorem dX3_hasBit_14 : decode cX3_hasBit 14 = .ok (.ireturn, 1) := by decide +kernel
set_option maxRecDepth 20000 in
theorem ggX3_high_X3_hasBit : GoodIn wsX3_high wsX3_hasBit := goodIn_r _ [5, 6, 7, 8, 9, 10, 11, 12, 13, 14, 15] rfl (by decide +kernel)
set_option maxRecDepth 20000 in
theorem gX3_high_X3_hasBit : GoodIn wsX3_high (wsV RX3 79 RX3 yX3_hasBit wsX3_hasBit) := goodIn_app (goodIn_of _ (by decide +kernel)) ggX3_high_X3_hasBit
theorem dX3_high_0 : decode cX3_high 0 = .ok (.aload_n 0, 1) := by decide +kernel
theorem dX3_high_1 : decode cX3_high 1 = .ok (.iload_n 1, 1) := by decide +kernel
theorem dX3_high_2 : decode cX3_high 2 = .ok (.invokevirtual 79, 3) := by decide +kernel
theorem dX3_high_5 : decode cX3_high 5 = .ok (.ifCond .eq 8, 3) := by decide +kernel
theorem dX3_high_8 : decode cX3_high 8 = .ok (.bipush 8, 2) := by decide +kernel
theorem dX3_high_10 : decode cX3_high 10 = .ok (.goto 4, 3) := by decide +kernel
theorem dX3_high_13 : decode cX3_high 13 = .ok (.iconst 0, 1) := by decide +kernel
theorem dX3_high_14 : decode cX3_high 14 = .ok (.ireturn, 1) := by decide +kernel
set_option maxRecDepth 20000 in
theorem ggX3_nextNumber_X3_nextOctet : GoodIn wsX3_nextNumber wsX3_nextOctet := goodIn_r _ [5, 6, 7, 8, 9, 10, 11, 12, 13, 14, 15, 16, 17, 18, 19, 20, 21, 22, 23, 24, 25, 26] rfl (by decide +kernel)
set_option maxRecDepth 20000 in
theorem gX3_nextNumber_X3_nextOctet : GoodIn wsX3_nextNumber (wsV RX3 54 RX3 yX3_nextOctet wsX3_nextOctet) := goodIn_app (goodIn_of _ (by decide +kernel)) ggX3_nextNumber_X3_nextOctet
theorem dX3_nextNumber_0 : decode cX3_nextNumber 0 = .ok (.lconst 0, 1) := by decide +kernel
theorem dX3_nextNumber_1 : decode cX3_nextNumber 1 = .ok (.lstore_n 3, 1) := by decide +kernel
theorem dX3_nextNumber_2 : decode cX3_nextNumber 2 = .ok (.iconst 0, 1) := by decide +kernel
theorem dX3_nextNumber_3 : decode cX3_nextNumber 3 = .ok (.istore 5, 2) := by decide +kernel
theorem dX3_nextNumber_5 : decode cX3_nextNumber 5 = .ok (.iload 5, 2) := by decide +kernel
theorem dX3_nextNumber_7 : decode cX3_nextNumber 7 = .ok (.iload_n 1, 1) := by decide +kernel
theorem dX3_nextNumber_8 : decode cX3_nextNumber 8 = .ok (.if_icmp .ge 23, 3) := by decide +kernel
theorem dX3_nextNumber_11 : decode cX3_nextNumber 11 = .ok (.lload_n 3, 1) := by decide +kernel
theorem dX3_nextNumber_12 : decode cX3_nextNumber 12 = .ok (.aload_n 0, 1) := by decide +kernel
theorem dX3_nextNumber_13 : decode cX3_nextNumber 13 = .ok (.invokevirtual 54, 3) := by decide +kernel
theorem dX3_nextNumber_16 : decode cX3_nextNumber 16 = .ok (.i2l, 1) := by decide +kernel
theorem dX3_nextNumber_17 : decode cX3_nextNumber 17 = .ok (.bipush 8, 2) := by decide +kernel
theorem dX3_nextNumber_19 : decode cX3_nextNumber 19 = .ok (.iload 5, 2) := by decide +kernel
theorem dX3_nextNumber_21 : decode cX3_nextNumber 21 = .ok (.imul, 1) := by decide +kernel
theorem dX3_nextNumber_22 : decode cX3_nextNumber 22 = .ok (.lshl, 1) := by decide +kernel
theorem dX3_nextNumber_23 : decode cX3_nextNumber 23 = .ok (.lor, 1) := by decide +kernel
theorem dX3_nextNumber_24 : decode cX3_nextNumber 24 = .ok (.lstore_n 3, 1) := by decide +kernel
theorem dX3_nextNumber_25 : decode cX3_nextNumber 25 = .ok (.iinc 5 1, 3) := by decide +kernel
theorem dX3_nextNumber_28 : decode cX3_nextNumber 28 = .ok (.goto (-23), 3) := by decide +kernel
theorem dX3_nextNumber_31 : decode cX3_nextNumber 31 = .ok (.iload_n 2, 1) := by decide +kernel
theorem dX3_nextNumber_32 : decode cX3_nextNumber 32 = .ok (.ifCond .eq 14, 3) := by decide +kernel
theorem dX3_nextNumber_35 : decode cX3_nextNumber 35 = .ok (.iload_n 1, 1) := by decide +kernel
theorem dX3_nextNumber_36 : decode cX3_nextNumber 36 = .ok (.iconst 1, 1) := by decide +kernel
theorem dX3_nextNumber_37 : decode cX3_nextNumber 37 = .ok (.if_icmp .lt 9, 3) := by decide +kernel
theorem dX3_nextNumber_40 : decode cX3_nextNumber 40 = .ok (.iload_n 1, 1) := by decide +kernel
theorem dX3_nextNumber_41 : decode cX3_nextNumber 41 = .ok (.bipush 7, 2) := by decide +kernel
theorem dX3_nextNumber_43 : decode cX3_nextNumber 43 = .ok (.if_icmp .le 5, 3) := by decide +kernel
theorem dX3_nextNumber_46 : decode cX3_nextNumber 46 = .ok (.lload_n 3, 1) := by decide +kernel
theorem dX3_nextNumber_47 : decode cX3_nextNumber 47 = .ok (.lreturn, 1) := by decide +kernel
theorem dX3_nextNumber_48 : decode cX3_nextNumber 48 = .ok (.bipush 64, 2) := by decide +kernel
theorem dX3_nextNumber_50 : decode cX3_nextNumber 50 = .ok (.bipush 8, 2) := by decide +kernel
theorem dX3_nextNumber_52 : decode cX3_nextNumber 52 = .ok (.iload_n 1, 1) := by decide +kernel
theorem dX3_nextNumber_53 : decode cX3_nextNumber 53 = .ok (.imul, 1) := by decide +kernel
theorem dX3_nextNumber_54 : decode cX3_nextNumber 54 = .ok (.isub, 1) := by decide +kernel
theorem dX3_nextNumber_55 : decode cX3_nextNumber 55 = .ok (.istore 5, 2) := by decide +kernel
theorem dX3_nextNumber_57 : decode cX3_nextNumber 57 = .ok (.lload_n 3, 1) := by decide +kernel
theorem dX3_nextNumber_58 : decode cX3_nextNumber 58 = .ok (.iload 5, 2) := by decide +kernel
theorem dX3_nextNumber_60 : decode cX3_nextNumber 60 = .ok (.lshl, 1) := by decide +kernel
theorem dX3_nextNumber_61 : decode cX3_nextNumber 61 = .ok (.iload 5, 2) := by decide +kernel
theorem dX3_nextNumber_63 : decode cX3_nextNumber 63 = .ok (.lshr, 1) := by decide +kernel
theorem dX3_nextNumber_64 : decode cX3_nextNumber 64 = .ok (.lreturn, 1) := by decide +kernel
set_option maxRecDepth 20000 in
theorem ggX3_nextOctet_X2_at : GoodIn wsX3_nextOctet wsX2_at := goodIn_r _ [8, 9, 10, 20, 21] rfl (by decide +kernel)
set_option maxRecDepth 20000 in
theorem gX3_nextOctet_X2_at : GoodIn wsX3_nextOctet (wsV RX3 44 RX2 yX2_at wsX2_at) := goodIn_app (goodIn_of _ (by decide +kernel)) ggX3_nextOctet_X2_at
theorem dX3_nextOctet_0 : decode cX3_nextOctet 0 = .ok (.aload_n 0, 1) := by decide +kernel
theorem dX3_nextOctet_1 : decode cX3_nextOctet 1 = .ok (.getfield 12, 3) := by decide +kernel
theorem dX3_nextOctet_4 : decode cX3_nextOctet 4 = .ok (.aload_n 0, 1) := by decide +kernel
theorem dX3_nextOctet_5 : decode cX3_nextOctet 5 = .ok (.getfield 25, 3) := by decide +kernel
theorem dX3_nextOctet_8 : decode cX3_nextOctet 8 = .ok (.invokevirtual 44, 3) := by decide +kernel
theorem dX3_nextOctet_11 : decode cX3_nextOctet 11 = .ok (.istore_n 1, 1) := by decide +kernel
theorem dX3_nextOctet_12 : decode cX3_nextOctet 12 = .ok (.iload_n 1, 1) := by decide +kernel
theorem dX3_nextOctet_13 : decode cX3_nextOctet 13 = .ok (.ifCond .ge 10, 3) := by decide +kernel
theorem dX3_nextOctet_16 : decode cX3_nextOctet 16 = .ok (.aload_n 0, 1) := by decide +kernel
theorem dX3_nextOctet_17 : decode cX3_nextOctet 17 = .ok (.iconst 1, 1) := by decide +kernel
theorem dX3_nextOctet_18 : decode cX3_nextOctet 18 = .ok (.putfield 29, 3) := by decide +kernel
theorem dX3_nextOctet_21 : decode cX3_nextOctet 21 = .ok (.iconst 0, 1) := by decide +kernel
theorem dX3_nextOctet_22 : decode cX3_nextOctet 22 = .ok (.ireturn, 1) := by decide +kernel
theorem dX3_nextOctet_23 : decode cX3_nextOctet 23 = .ok (.aload_n 0, 1) := by decide +kernel
theorem dX3_nextOctet_24 : decode cX3_nextOctet 24 = .ok (.dup, 1) := by decide +kernel
theorem dX3_nextOctet_25 : decode cX3_nextOctet 25 = .ok (.getfield 25, 3) := by decide +kernel
theorem dX3_nextOctet_28 : decode cX3_nextOctet 28 = .ok (.iconst 1, 1) := by decide +kernel
theorem dX3_nextOctet_29 : decode cX3_nextOctet 29 = .ok (.iadd, 1) := by decide +kernel
theorem dX3_nextOctet_30 : decode cX3_nextOctet 30 = .ok (.putfield 25, 3) := by decide +kernel
theorem dX3_nextOctet_33 : decode cX3_nextOctet 33 = .ok (.iload_n 1, 1) := by decide +kernel
theorem dX3_nextOctet_34 : decode cX3_nextOctet 34 = .ok (.ireturn, 1) := by decide +kernel
