theorem dX4_lines_0 : decode cX4_lines 0 = .ok (.getstatic 9, 3) := by decide +kernel
theorem dX4_lines_3 : decode cX4_lines 3 = .ok (.arraylength, 1) := by decide +kernel
theorem dX4_lines_4 : decode cX4_lines 4 = .ok (.bipush 7, 2) := by decide +kernel
theorem dX4_lines_6 : decode cX4_lines 6 = .ok (.idiv, 1) := by decide +kernel
theorem dX4_lines_7 : decode cX4_lines 7 = .ok (.ireturn, 1) := by decide +kernel
theorem dX4_cell_0 : decode cX4_cell 0 = .ok (.iload_n 0, 1) := by decide +kernel
theorem dX4_cell_1 : decode cX4_cell 1 = .ok (.bipush 7, 2) := by decide +kernel
theorem dX4_cell_3 : decode cX4_cell 3 = .ok (.imul, 1) := by decide +kernel
theorem dX4_cell_4 : decode cX4_cell 4 = .ok (.iload_n 1, 1) := by decide +kernel
theorem dX4_cell_5 : decode cX4_cell 5 = .ok (.iadd, 1) := by decide +kernel
theorem dX4_cell_6 : decode cX4_cell 6 = .ok (.istore_n 2, 1) := by decide +kernel
theorem dX4_cell_7 : decode cX4_cell 7 = .ok (.iload_n 2, 1) := by decide +kernel
theorem dX4_cell_8 : decode cX4_cell 8 = .ok (.ifCond .lt 19, 3) := by decide +kernel
theorem dX4_cell_11 : decode cX4_cell 11 = .ok (.iload_n 2, 1) := by decide +kernel
theorem dX4_cell_12 : decode cX4_cell 12 = .ok (.getstatic 9, 3) := by decide +kernel
theorem dX4_cell_15 : decode cX4_cell 15 = .ok (.arraylength, 1) := by decide +kernel
theorem dX4_cell_16 : decode cX4_cell 16 = .ok (.if_icmp .ge 11, 3) := by decide +kernel
theorem dX4_cell_19 : decode cX4_cell 19 = .ok (.getstatic 9, 3) := by decide +kernel
theorem dX4_cell_22 : decode cX4_cell 22 = .ok (.iload_n 2, 1) := by decide +kernel
theorem dX4_cell_23 : decode cX4_cell 23 = .ok (.iaload, 1) := by decide +kernel
theorem dX4_cell_24 : decode cX4_cell 24 = .ok (.goto 4, 3) := by decide +kernel
theorem dX4_cell_27 : decode cX4_cell 27 = .ok (.iconst 0, 1) := by decide +kernel
theorem dX4_cell_28 : decode cX4_cell 28 = .ok (.ireturn, 1) := by decide +kernel
set_option maxRecDepth 20000 in
theorem ggX4_opOf_X4_cell : GoodIn wsX4_opOf wsX4_cell := goodIn_r _ [4, 5] rfl (by decide +kernel)
set_option maxRecDepth 20000 in
theorem gX4_opOf_X4_cell : GoodIn wsX4_opOf (va_wsS RX4 13 yX4_cell wsX4_cell) := goodIn_app (goodIn_of _ (by decide +kernel)) ggX4_opOf_X4_cell
theorem dX4_opOf_0 : decode cX4_opOf 0 = .ok (.iload_n 0, 1) := by decide +kernel
theorem dX4_opOf_1 : decode cX4_opOf 1 = .ok (.iconst 0, 1) := by decide +kernel
theorem dX4_opOf_2 : decode cX4_opOf 2 = .ok (.invokestatic 13, 3) := by decide +kernel
theorem dX4_opOf_5 : decode cX4_opOf 5 = .ok (.ireturn, 1) := by decide +kernel
set_option maxRecDepth 20000 in
theorem ggX4_isRepeated_X4_cell : GoodIn wsX4_isRepeated wsX4_cell := goodIn_r _ [4, 5] rfl (by decide +kernel)
set_option maxRecDepth 20000 in
theorem gX4_isRepeated_X4_cell : GoodIn wsX4_isRepeated (va_wsS RX4 13 yX4_cell wsX4_cell) := goodIn_app (goodIn_of _ (by decide +kernel)) ggX4_isRepeated_X4_cell
theorem dX4_isRepeated_0 : decode cX4_isRepeated 0 = .ok (.iload_n 0, 1) := by decide +kernel
theorem dX4_isRepeated_1 : decode cX4_isRepeated 1 = .ok (.iconst 1, 1) := by decide +kernel
theorem dX4_isRepeated_2 : decode cX4_isRepeated 2 = .ok (.invokestatic 13, 3) := by decide +kernel
theorem dX4_isRepeated_5 : decode cX4_isRepeated 5 = .ok (.iconst 1, 1) := by decide +kernel
theorem dX4_isRepeated_6 : decode cX4_isRepeated 6 = .ok (.if_icmp .ne 7, 3) := by decide +kernel
theorem dX4_isRepeated_9 : decode cX4_isRepeated 9 = .ok (.iconst 1, 1) := by decide +kernel
theorem dX4_isRepeated_10 : decode cX4_isRepeated 10 = .ok (.goto 4, 3) := by decide +kernel
theorem dX4_isRepeated_13 : decode cX4_isRepeated 13 = .ok (.iconst 0, 1) := by decide +kernel
theorem dX4_isRepeated_14 : decode cX4_isRepeated 14 = .ok (.ireturn, 1) := by decide +kernel
set_option maxRecDepth 20000 in
theorem ggX4_hasCondition_X4_cell : GoodIn wsX4_hasCondition wsX4_cell := goodIn_r _ [4, 5] rfl (by decide +kernel)
set_option maxRecDepth 20000 in
theorem gX4_hasCondition_X4_cell : GoodIn wsX4_hasCondition (va_wsS RX4 13 yX4_cell wsX4_cell) := goodIn_app (goodIn_of _ (by decide +kernel)) ggX4_hasCondition_X4_cell
theorem dX4_hasCondition_0 : decode cX4_hasCondition 0 = .ok (.iload_n 0, 1) := by decide +kernel
theorem dX4_hasCondition_1 : decode cX4_hasCondition 1 = .ok (.iconst 1, 1) := by decide +kernel
theorem dX4_hasCondition_2 : decode cX4_hasCondition 2 = .ok (.invokestatic 13, 3) := by decide +kernel
theorem dX4_hasCondition_5 : decode cX4_hasCondition 5 = .ok (.iconst 2, 1) := by decide +kernel
theorem dX4_hasCondition_6 : decode cX4_hasCondition 6 = .ok (.if_icmp .ne 7, 3) := by decide +kernel
theorem dX4_hasCondition_9 : decode cX4_hasCondition 9 = .ok (.iconst 1, 1) := by decide +kernel
theorem dX4_hasCondition_10 : decode cX4_hasCondition 10 = .ok (.goto 4, 3) := by decide +kernel
theorem dX4_hasCondition_13 : decode cX4_hasCondition 13 = .ok (.iconst 0, 1) := by decide +kernel
theorem dX4_hasCondition_14 : decode cX4_hasCondition 14 = .ok (.ireturn, 1) := by decide +kernel
set_option maxRecDepth 20000 in
theorem ggX4_opcodeOf_X4_cell : GoodIn wsX4_opcodeOf wsX4_cell := goodIn_r _ [4, 5] rfl (by decide +kernel)
set_option maxRecDepth 20000 in
theorem gX4_opcodeOf_X4_cell : GoodIn wsX4_opcodeOf (va_wsS RX4 13 yX4_cell wsX4_cell) := goodIn_app (goodIn_of _ (by decide +kernel)) ggX4_opcodeOf_X4_cell
theorem dX4_opcodeOf_0 : decode cX4_opcodeOf 0 = .ok (.iload_n 0, 1) := by decide +kernel
theorem dX4_opcodeOf_1 : decode cX4_opcodeOf 1 = .ok (.iconst 3, 1) := by decide +kernel
theorem dX4_opcodeOf_2 : decode cX4_opcodeOf 2 = .ok (.invokestatic 13, 3) := by decide +kernel
theorem dX4_opcodeOf_5 : decode cX4_opcodeOf 5 = .ok (.ireturn, 1) := by decide +kernel
set_option maxRecDepth 20000 in
theorem ggX4_digitOf_X4_cell : GoodIn wsX4_digitOf wsX4_cell := goodIn_r _ [4, 5] rfl (by decide +kernel)
set_option maxRecDepth 20000 in
theorem gX4_digitOf_X4_cell : GoodIn wsX4_digitOf (va_wsS RX4 13 yX4_cell wsX4_cell) := goodIn_app (goodIn_of _ (by decide +kernel)) ggX4_digitOf_X4_cell
theorem dX4_digitOf_0 : decode cX4_digitOf 0 = .ok (.iload_n 0, 1) := by decide +kernel
theorem dX4_digitOf_1 : decode cX4_digitOf 1 = .ok (.iconst 4, 1) := by decide +kernel
theorem dX4_digitOf_2 : decode cX4_digitOf 2 = .ok (.invokestatic 13, 3) := by decide +kernel
theorem dX4_digitOf_5 : decode cX4_digitOf 5 = .ok (.ireturn, 1) := by decide +kernel
set_option maxRecDepth 20000 in
theorem ggX4_roleOf_X4_cell : GoodIn wsX4_roleOf wsX4_cell := goodIn_r _ [4, 5] rfl (by decide +kernel)
set_option maxRecDepth 20000 in
theorem gX4_roleOf_X4_cell : GoodIn wsX4_roleOf (va_wsS RX4 13 yX4_cell wsX4_cell) := goodIn_app (goodIn_of _ (by decide +kernel)) ggX4_roleOf_X4_cell
theorem dX4_roleOf_0 : decode cX4_roleOf 0 = .ok (.iload_n 0, 1) := by decide +kernel
theorem dX4_roleOf_1 : decode cX4_roleOf 1 = .ok (.iconst 5, 1) := by decide +kernel
theorem dX4_roleOf_2 : decode cX4_roleOf 2 = .ok (.invokestatic 13, 3) := by decide +kernel
theorem dX4_roleOf_5 : decode cX4_roleOf 5 = .ok (.iconst 4, 1) := by decide +kernel
theorem dX4_roleOf_6 : decode cX4_roleOf 6 = .ok (.iload_n 1, 1) := by decide +kernel
theorem dX4_roleOf_7 : decode cX4_roleOf 7 = .ok (.imul, 1) := by decide +kernel
theorem dX4_roleOf_8 : decode cX4_roleOf 8 = .ok (.ishr, 1) := by decide +kernel
theorem dX4_roleOf_9 : decode cX4_roleOf 9 = .ok (.bipush 15, 2) := by decide +kernel
theorem dX4_roleOf_11 : decode cX4_roleOf 11 = .ok (.iand, 1) := by decide +kernel
theorem dX4_roleOf_12 : decode cX4_roleOf 12 = .ok (.ireturn, 1) := by decide +kernel
set_option maxRecDepth 20000 in
theorem ggX4_hasSizeBit_X4_cell : GoodIn wsX4_hasSizeBit wsX4_cell := goodIn_r _ [4, 5] rfl (by decide +kernel)
set_option maxRecDepth 20000 in
theorem gX4_hasSizeBit_X4_cell : GoodIn wsX4_hasSizeBit (va_wsS RX4 13 yX4_cell wsX4_cell) := goodIn_app (goodIn_of _ (by decide +kernel)) ggX4_hasSizeBit_X4_cell
theorem dX4_hasSizeBit_0 : decode cX4_hasSizeBit 0 = .ok (.iload_n 0, 1) := by decide +kernel
theorem dX4_hasSizeBit_1 : decode cX4_hasSizeBit 1 = .ok (.iconst 2, 1) := by decide +kernel
theorem dX4_hasSizeBit_2 : decode cX4_hasSizeBit 2 = .ok (.invokestatic 13, 3) := by decide +kernel
theorem dX4_hasSizeBit_5 : decode cX4_hasSizeBit 5 = .ok (.iconst 2, 1) := by decide +kernel
theorem dX4_hasSizeBit_6 : decode cX4_hasSizeBit 6 = .ok (.if_icmp .ne 7, 3) := by decide +kernel
theorem dX4_hasSizeBit_9 : decode cX4_hasSizeBit 9 = .ok (.iconst 1, 1) := by decide +kernel
theorem dX4_hasSizeBit_10 : decode cX4_hasSizeBit 10 = .ok (.goto 4, 3) := by decide +kernel
theorem dX4_hasSizeBit_13 : decode cX4_hasSizeBit 13 = .ok (.iconst 0, 1) := by decide +kernel
theorem dX4_hasSizeBit_14 : decode cX4_hasSizeBit 14 = .ok (.ireturn, 1) := by decide +kernel
set_option maxRecDepth 20000 in
theorem ggX4_hasSize_X4_cell : GoodIn wsX4_hasSize wsX4_cell := goodIn_r _ [4, 5] rfl (by decide +kernel)
set_option maxRecDepth 20000 in
theorem gX4_hasSize_X4_cell : GoodIn wsX4_hasSize (va_wsS RX4 13 yX4_cell wsX4_cell) := goodIn_app (goodIn_of _ (by decide +kernel)) ggX4_hasSize_X4_cell
theorem dX4_hasSize_0 : decode cX4_hasSize 0 = .ok (.iload_n 0, 1) := by decide +kernel
theorem dX4_hasSize_1 : decode cX4_hasSize 1 = .ok (.iconst 2, 1) := by decide +kernel
theorem dX4_hasSize_2 : decode cX4_hasSize 2 = .ok (.invokestatic 13, 3) := by decide +kernel
theorem dX4_hasSize_5 : decode cX4_hasSize 5 = .ok (.tableswitch 106 0 4 #[35, 45, 56, 78, 95], 35) := by decide +kernel
theorem dX4_hasSize_40 : decode cX4_hasSize 40 = .ok (.iload_n 1, 1) := by decide +kernel
theorem dX4_hasSize_41 : decode cX4_hasSize 41 = .ok (.ifCond .ne 7, 3) := by decide +kernel
theorem dX4_hasSize_44 : decode cX4_hasSize 44 = .ok (.iconst 1, 1) := by decide +kernel
theorem dX4_hasSize_45 : decode cX4_hasSize 45 = .ok (.goto 4, 3) := by decide +kernel
theorem dX4_hasSize_48 : decode cX4_hasSize 48 = .ok (.iconst 0, 1) := by decide +kernel
theorem dX4_hasSize_49 : decode cX4_hasSize 49 = .ok (.ireturn, 1) := by decide +kernel
theorem dX4_hasSize_50 : decode cX4_hasSize 50 = .ok (.iload_n 1, 1) := by decide +kernel
theorem dX4_hasSize_51 : decode cX4_hasSize 51 = .ok (.iconst 1, 1) := by decide +kernel
theorem dX4_hasSize_52 : decode cX4_hasSize 52 = .ok (.if_icmp .ne 7, 3) := by decide +kernel
theorem dX4_hasSize_55 : decode cX4_hasSize 55 = .ok (.iconst 1, 1) := by decide +kernel
theorem dX4_hasSize_56 : decode cX4_hasSize 56 = .ok (.goto 4, 3) := by decide +kernel
theorem dX4_hasSize_59 : decode cX4_hasSize 59 = .ok (.iconst 0, 1) := by decide +kernel
theorem dX4_hasSize_60 : decode cX4_hasSize 60 = .ok (.ireturn, 1) := by decide +kernel
theorem dX4_hasSize_61 : decode cX4_hasSize 61 = .ok (.iload_n 1, 1) := by decide +kernel
theorem dX4_hasSize_62 : decode cX4_hasSize 62 = .ok (.iconst 1, 1) := by decide +kernel
theorem dX4_hasSize_63 : decode cX4_hasSize 63 = .ok (.if_icmp .eq 14, 3) := by decide +kernel
theorem dX4_hasSize_66 : decode cX4_hasSize 66 = .ok (.iload_n 1, 1) := by decide +kernel
theorem dX4_hasSize_67 : decode cX4_hasSize 67 = .ok (.iconst 4, 1) := by decide +kernel
theorem dX4_hasSize_68 : decode cX4_hasSize 68 = .ok (.if_icmp .eq 9, 3) := by decide +kernel
theorem dX4_hasSize_71 : decode cX4_hasSize 71 = .ok (.iload_n 1, 1) := by decide +kernel
theorem dX4_hasSize_72 : decode cX4_hasSize 72 = .ok (.bipush 8, 2) := by decide +kernel
theorem dX4_hasSize_74 : decode cX4_hasSize 74 = .ok (.if_icmp .ne 7, 3) := by decide +kernel
theorem dX4_hasSize_77 : decode cX4_hasSize 77 = .ok (.iconst 1, 1) := by decide +kernel
theorem dX4_hasSize_78 : decode cX4_hasSize 78 = .ok (.goto 4, 3) := by decide +kernel
theorem dX4_hasSize_81 : decode cX4_hasSize 81 = .ok (.iconst 0, 1) := by decide +kernel
theorem dX4_hasSize_82 : decode cX4_hasSize 82 = .ok (.ireturn, 1) := by decide +kernel
theorem dX4_hasSize_83 : decode cX4_hasSize 83 = .ok (.iload_n 1, 1) := by decide +kernel
theorem dX4_hasSize_84 : decode cX4_hasSize 84 = .ok (.iconst 4, 1) := by decide +kernel
theorem dX4_hasSize_85 : decode cX4_hasSize 85 = .ok (.if_icmp .eq 9, 3) := by decide +kernel
theorem dX4_hasSize_88 : decode cX4_hasSize 88 = .ok (.iload_n 1, 1) := by decide +kernel
theorem dX4_hasSize_89 : decode cX4_hasSize 89 = .ok (.bipush 8, 2) := by decide +kernel
theorem dX4_hasSize_91 : decode cX4_hasSize 91 = .ok (.if_icmp .ne 7, 3) := by decide +kernel
theorem dX4_hasSize_94 : decode cX4_hasSize 94 = .ok (.iconst 1, 1) := by decide +kernel
theorem dX4_hasSize_95 : decode cX4_hasSize 95 = .ok (.goto 4, 3) := by decide +kernel
theorem dX4_hasSize_98 : decode cX4_hasSize 98 = .ok (.iconst 0, 1) := by decide +kernel
theorem dX4_hasSize_99 : decode cX4_hasSize 99 = .ok (.ireturn, 1) := by decide +kernel
theorem dX4_hasSize_100 : decode cX4_hasSize 100 = .ok (.iload_n 1, 1) := by decide +kernel
theorem dX4_hasSize_101 : decode cX4_hasSize 101 = .ok (.iconst 4, 1) := by decide +kernel
theorem dX4_hasSize_102 : decode cX4_hasSize 102 = .ok (.if_icmp .ne 7, 3) := by decide +kernel
theorem dX4_hasSize_105 : decode cX4_hasSize 105 = .ok (.iconst 1, 1) := by decide +kernel
theorem dX4_hasSize_106 : decode cX4_hasSize 106 = .ok (.goto 4, 3) := by decide +kernel
theorem dX4_hasSize_109 : decode cX4_hasSize 109 = .ok (.iconst 0, 1) := by decide +kernel
theorem dX4_hasSize_110 : decode cX4_hasSize 110 = .ok (.ireturn, 1) := by decide +kernel
theorem dX4_hasSize_111 : decode cX4_hasSize 111 = .ok (.iload_n 1, 1) := by decide +kernel
theorem dX4_hasSize_112 : decode cX4_hasSize 112 = .ok (.bipush 8, 2) := by decide +kernel
theorem dX4_hasSize_114 : decode cX4_hasSize 114 = .ok (.if_icmp .ne 7, 3) := by decide +kernel
theorem dX4_hasSize_117 : decode cX4_hasSize 117 = .ok (.iconst 1, 1) := by decide +kernel
theorem dX4_hasSize_118 : decode cX4_hasSize 118 = .ok (.goto 4, 3) := by decide +kernel
theorem dX4_hasSize_121 : decode cX4_hasSize 121 = .ok (.iconst 0, 1) := by decide +kernel
theorem dX4_hasSize_122 : decode cX4_hasSize 122 = .ok (.ireturn, 1) := by decide +kernel
set_option maxRecDepth 20000 in
theorem ggX4_sizeNeedsW_X4_cell : GoodIn wsX4_sizeNeedsW wsX4_cell := goodIn_r _ [4, 5] rfl (by decide +kernel)
set_option maxRecDepth 20000 in
theorem gX4_sizeNeedsW_X4_cell : GoodIn wsX4_sizeNeedsW (va_wsS RX4 13 yX4_cell wsX4_cell) := goodIn_app (goodIn_of _ (by decide +kernel)) ggX4_sizeNeedsW_X4_cell
theorem dX4_sizeNeedsW_0 : decode cX4_sizeNeedsW 0 = .ok (.iload_n 1, 1) := by decide +kernel
theorem dX4_sizeNeedsW_1 : decode cX4_sizeNeedsW 1 = .ok (.bipush 8, 2) := by decide +kernel
theorem dX4_sizeNeedsW_3 : decode cX4_sizeNeedsW 3 = .ok (.if_icmp .ne 17, 3) := by decide +kernel
theorem dX4_sizeNeedsW_6 : decode cX4_sizeNeedsW 6 = .ok (.iload_n 0, 1) := by decide +kernel
theorem dX4_sizeNeedsW_7 : decode cX4_sizeNeedsW 7 = .ok (.iconst 2, 1) := by decide +kernel
theorem dX4_sizeNeedsW_8 : decode cX4_sizeNeedsW 8 = .ok (.invokestatic 13, 3) := by decide +kernel
theorem dX4_sizeNeedsW_11 : decode cX4_sizeNeedsW 11 = .ok (.bipush 6, 2) := by decide +kernel
theorem dX4_sizeNeedsW_13 : decode cX4_sizeNeedsW 13 = .ok (.if_icmp .eq 7, 3) := by decide +kernel
theorem dX4_sizeNeedsW_16 : decode cX4_sizeNeedsW 16 = .ok (.iconst 1, 1) := by decide +kernel
theorem dX4_sizeNeedsW_17 : decode cX4_sizeNeedsW 17 = .ok (.goto 4, 3) := by decide +kernel
theorem dX4_sizeNeedsW_20 : decode cX4_sizeNeedsW 20 = .ok (.iconst 0, 1) := by decide +kernel
theorem dX4_sizeNeedsW_21 : decode cX4_sizeNeedsW 21 = .ok (.ireturn, 1) := by decide +kernel
set_option maxRecDepth 20000 in
theorem ggX4_allowsW_X4_cell : GoodIn wsX4_allowsW wsX4_cell := goodIn_r _ [4, 5] rfl (by decide +kernel)
set_option maxRecDepth 20000 in
theorem gX4_allowsW_X4_cell : GoodIn wsX4_allowsW (va_wsS RX4 13 yX4_cell wsX4_cell) := goodIn_app (goodIn_of _ (by decide +kernel)) ggX4_allowsW_X4_cell
theorem dX4_allowsW_0 : decode cX4_allowsW 0 = .ok (.iload_n 0, 1) := by decide +kernel
theorem dX4_allowsW_1 : decode cX4_allowsW 1 = .ok (.iconst 2, 1) := by decide +kernel
theorem dX4_allowsW_2 : decode cX4_allowsW 2 = .ok (.invokestatic 13, 3) := by decide +kernel
theorem dX4_allowsW_5 : decode cX4_allowsW 5 = .ok (.istore_n 2, 1) := by decide +kernel
theorem dX4_allowsW_6 : decode cX4_allowsW 6 = .ok (.iload_n 1, 1) := by decide +kernel
theorem dX4_allowsW_7 : decode cX4_allowsW 7 = .ok (.ifCond .eq 16, 3) := by decide +kernel
theorem dX4_allowsW_10 : decode cX4_allowsW 10 = .ok (.iload_n 2, 1) := by decide +kernel
theorem dX4_allowsW_11 : decode cX4_allowsW 11 = .ok (.iconst 4, 1) := by decide +kernel
theorem dX4_allowsW_12 : decode cX4_allowsW 12 = .ok (.if_icmp .eq 7, 3) := by decide +kernel
theorem dX4_allowsW_15 : decode cX4_allowsW 15 = .ok (.iconst 1, 1) := by decide +kernel
theorem dX4_allowsW_16 : decode cX4_allowsW 16 = .ok (.goto 17, 3) := by decide +kernel
theorem dX4_allowsW_19 : decode cX4_allowsW 19 = .ok (.iconst 0, 1) := by decide +kernel
theorem dX4_allowsW_20 : decode cX4_allowsW 20 = .ok (.goto 13, 3) := by decide +kernel
theorem dX4_allowsW_23 : decode cX4_allowsW 23 = .ok (.iload_n 2, 1) := by decide +kernel
theorem dX4_allowsW_24 : decode cX4_allowsW 24 = .ok (.iconst 5, 1) := by decide +kernel
theorem dX4_allowsW_25 : decode cX4_allowsW 25 = .ok (.if_icmp .eq 7, 3) := by decide +kernel
theorem dX4_allowsW_28 : decode cX4_allowsW 28 = .ok (.iconst 1, 1) := by decide +kernel
theorem dX4_allowsW_29 : decode cX4_allowsW 29 = .ok (.goto 4, 3) := by decide +kernel
theorem dX4_allowsW_32 : decode cX4_allowsW 32 = .ok (.iconst 0, 1) := by decide +kernel
theorem dX4_allowsW_33 : decode cX4_allowsW 33 = .ok (.ireturn, 1) := by decide +kernel
set_option maxRecDepth 20000 in
theorem ggX4_sizeTold_X4_cell : GoodIn wsX4_sizeTold wsX4_cell := goodIn_r _ [4, 5] rfl (by decide +kernel)
set_option maxRecDepth 20000 in
theorem gX4_sizeTold_X4_cell : GoodIn wsX4_sizeTold (va_wsS RX4 13 yX4_cell wsX4_cell) := goodIn_app (goodIn_of _ (by decide +kernel)) ggX4_sizeTold_X4_cell
theorem dX4_sizeTold_0 : decode cX4_sizeTold 0 = .ok (.iload_n 0, 1) := by decide +kernel
theorem dX4_sizeTold_1 : decode cX4_sizeTold 1 = .ok (.iconst 2, 1) := by decide +kernel
theorem dX4_sizeTold_2 : decode cX4_sizeTold 2 = .ok (.invokestatic 13, 3) := by decide +kernel
theorem dX4_sizeTold_5 : decode cX4_sizeTold 5 = .ok (.istore_n 3, 1) := by decide +kernel
theorem dX4_sizeTold_6 : decode cX4_sizeTold 6 = .ok (.iload_n 3, 1) := by decide +kernel
theorem dX4_sizeTold_7 : decode cX4_sizeTold 7 = .ok (.ifCond .ne 5, 3) := by decide +kernel
theorem dX4_sizeTold_10 : decode cX4_sizeTold 10 = .ok (.iconst 0, 1) := by decide +kernel
theorem dX4_sizeTold_11 : decode cX4_sizeTold 11 = .ok (.ireturn, 1) := by decide +kernel
theorem dX4_sizeTold_12 : decode cX4_sizeTold 12 = .ok (.iload_n 3, 1) := by decide +kernel
theorem dX4_sizeTold_13 : decode cX4_sizeTold 13 = .ok (.iconst 1, 1) := by decide +kernel
theorem dX4_sizeTold_14 : decode cX4_sizeTold 14 = .ok (.if_icmp .eq 12, 3) := by decide +kernel
theorem dX4_sizeTold_17 : decode cX4_sizeTold 17 = .ok (.iload_n 3, 1) := by decide +kernel
theorem dX4_sizeTold_18 : decode cX4_sizeTold 18 = .ok (.iconst 2, 1) := by decide +kernel
theorem dX4_sizeTold_19 : decode cX4_sizeTold 19 = .ok (.if_icmp .ne 9, 3) := by decide +kernel
theorem dX4_sizeTold_22 : decode cX4_sizeTold 22 = .ok (.iload_n 1, 1) := by decide +kernel
theorem dX4_sizeTold_23 : decode cX4_sizeTold 23 = .ok (.ifCond .ne 5, 3) := by decide +kernel
theorem dX4_sizeTold_26 : decode cX4_sizeTold 26 = .ok (.iconst 1, 1) := by decide +kernel
theorem dX4_sizeTold_27 : decode cX4_sizeTold 27 = .ok (.ireturn, 1) := by decide +kernel
theorem dX4_sizeTold_28 : decode cX4_sizeTold 28 = .ok (.iload_n 2, 1) := by decide +kernel
theorem dX4_sizeTold_29 : decode cX4_sizeTold 29 = .ok (.ifCond .ne 9, 3) := by decide +kernel
theorem dX4_sizeTold_32 : decode cX4_sizeTold 32 = .ok (.iload_n 3, 1) := by decide +kernel
theorem dX4_sizeTold_33 : decode cX4_sizeTold 33 = .ok (.bipush 6, 2) := by decide +kernel
theorem dX4_sizeTold_35 : decode cX4_sizeTold 35 = .ok (.if_icmp .ne 8, 3) := by decide +kernel
theorem dX4_sizeTold_38 : decode cX4_sizeTold 38 = .ok (.bipush 8, 2) := by decide +kernel
theorem dX4_sizeTold_40 : decode cX4_sizeTold 40 = .ok (.goto 4, 3) := by decide +kernel
theorem dX4_sizeTold_43 : decode cX4_sizeTold 43 = .ok (.iconst 4, 1) := by decide +kernel
theorem dX4_sizeTold_44 : decode cX4_sizeTold 44 = .ok (.ireturn, 1) := by decide +kernel
set_option maxRecDepth 20000 in
theorem ggX4_hasOpcode_X4_opcodeOf : GoodIn wsX4_hasOpcode wsX4_opcodeOf := goodIn_r _ [4, 5, 6, 3, 7, 8] rfl (by decide +kernel)
set_option maxRecDepth 20000 in
theorem gX4_hasOpcode_X4_opcodeOf : GoodIn wsX4_hasOpcode (va_wsS RX4 17 yX4_opcodeOf wsX4_opcodeOf) := goodIn_app (goodIn_of _ (by decide +kernel)) ggX4_hasOpcode_X4_opcodeOf
set_option maxRecDepth 20000 in
theorem ggX4_hasOpcode_X4_opcodes : GoodIn wsX4_hasOpcode wsX4_opcodes := goodIn_r _ [11, 12, 13, 3, 14, 5, 6, 7, 8, 15, 16, 17, 18, 19, 20] rfl (by decide +kernel)
set_option maxRecDepth 20000 in
theorem gX4_hasOpcode_X4_opcodes : GoodIn wsX4_hasOpcode (va_wsS RX4 21 yX4_opcodes wsX4_opcodes) := goodIn_app (goodIn_of _ (by decide +kernel)) ggX4_hasOpcode_X4_opcodes
theorem dX4_hasOpcode_0 : decode cX4_hasOpcode 0 = .ok (.iload_n 1, 1) := by decide +kernel
theorem dX4_hasOpcode_1 : decode cX4_hasOpcode 1 = .ok (.iload_n 0, 1) := by decide +kernel
theorem dX4_hasOpcode_2 : decode cX4_hasOpcode 2 = .ok (.invokestatic 17, 3) := by decide +kernel
theorem dX4_hasOpcode_5 : decode cX4_hasOpcode 5 = .ok (.isub, 1) := by decide +kernel
theorem dX4_hasOpcode_6 : decode cX4_hasOpcode 6 = .ok (.istore_n 2, 1) := by decide +kernel
theorem dX4_hasOpcode_7 : decode cX4_hasOpcode 7 = .ok (.iload_n 2, 1) := by decide +kernel
theorem dX4_hasOpcode_8 : decode cX4_hasOpcode 8 = .ok (.ifCond .lt 15, 3) := by decide +kernel
theorem dX4_hasOpcode_11 : decode cX4_hasOpcode 11 = .ok (.iload_n 2, 1) := by decide +kernel
theorem dX4_hasOpcode_12 : decode cX4_hasOpcode 12 = .ok (.iload_n 0, 1) := by decide +kernel
theorem dX4_hasOpcode_13 : decode cX4_hasOpcode 13 = .ok (.invokestatic 21, 3) := by decide +kernel
theorem dX4_hasOpcode_16 : decode cX4_hasOpcode 16 = .ok (.if_icmp .ge 7, 3) := by decide +kernel
theorem dX4_hasOpcode_19 : decode cX4_hasOpcode 19 = .ok (.iconst 1, 1) := by decide +kernel
theorem dX4_hasOpcode_20 : decode cX4_hasOpcode 20 = .ok (.goto 4, 3) := by decide +kernel
theorem dX4_hasOpcode_23 : decode cX4_hasOpcode 23 = .ok (.iconst 0, 1) := by decide +kernel
theorem dX4_hasOpcode_24 : decode cX4_hasOpcode 24 = .ok (.ireturn, 1) := by decide +kernel
set_option maxRecDepth 20000 in
theorem ggX4_opcodes_X4_hasCondition : GoodIn wsX4_opcodes wsX4_hasCondition := goodIn_r _ [4, 5, 6, 3, 7, 8] rfl (by decide +kernel)
set_option maxRecDepth 20000 in
theorem gX4_opcodes_X4_hasCondition : GoodIn wsX4_opcodes (va_wsS RX4 24 yX4_hasCondition wsX4_hasCondition) := goodIn_app (goodIn_of _ (by decide +kernel)) ggX4_opcodes_X4_hasCondition
set_option maxRecDepth 20000 in
theorem ggX4_opcodes_X4_hasSizeBit : GoodIn wsX4_opcodes wsX4_hasSizeBit := goodIn_r _ [11, 5, 6, 3, 7, 8] rfl (by decide +kernel)
set_option maxRecDepth 20000 in
theorem gX4_opcodes_X4_hasSizeBit : GoodIn wsX4_opcodes (va_wsS RX4 28 yX4_hasSizeBit wsX4_hasSizeBit) := goodIn_app (goodIn_of _ (by decide +kernel)) ggX4_opcodes_X4_hasSizeBit
set_option maxRecDepth 20000 in
theorem ggX4_opcodes_X4_roleOf : GoodIn wsX4_opcodes wsX4_roleOf := goodIn_r _ [14, 5, 6, 3, 7, 8] rfl (by decide +kernel)
set_option maxRecDepth 20000 in
theorem gX4_opcodes_X4_roleOf : GoodIn wsX4_opcodes (va_wsS RX4 31 yX4_roleOf wsX4_roleOf) := goodIn_app (goodIn_of _ (by decide +kernel)) ggX4_opcodes_X4_roleOf
theorem dX4_opcodes_0 : decode cX4_opcodes 0 = .ok (.iload_n 0, 1) := by decide +kernel
theorem dX4_opcodes_1 : decode cX4_opcodes 1 = .ok (.invokestatic 24, 3) := by decide +kernel
theorem dX4_opcodes_4 : decode cX4_opcodes 4 = .ok (.ifCond .eq 6, 3) := by decide +kernel
theorem dX4_opcodes_7 : decode cX4_opcodes 7 = .ok (.bipush 16, 2) := by decide +kernel
theorem dX4_opcodes_9 : decode cX4_opcodes 9 = .ok (.ireturn, 1) := by decide +kernel
theorem dX4_opcodes_10 : decode cX4_opcodes 10 = .ok (.iload_n 0, 1) := by decide +kernel
theorem dX4_opcodes_11 : decode cX4_opcodes 11 = .ok (.invokestatic 28, 3) := by decide +kernel
theorem dX4_opcodes_14 : decode cX4_opcodes 14 = .ok (.ifCond .eq 5, 3) := by decide +kernel
theorem dX4_opcodes_17 : decode cX4_opcodes 17 = .ok (.iconst 2, 1) := by decide +kernel
theorem dX4_opcodes_18 : decode cX4_opcodes 18 = .ok (.ireturn, 1) := by decide +kernel
theorem dX4_opcodes_19 : decode cX4_opcodes 19 = .ok (.iload_n 0, 1) := by decide +kernel
theorem dX4_opcodes_20 : decode cX4_opcodes 20 = .ok (.iconst 0, 1) := by decide +kernel
theorem dX4_opcodes_21 : decode cX4_opcodes 21 = .ok (.invokestatic 31, 3) := by decide +kernel
theorem dX4_opcodes_24 : decode cX4_opcodes 24 = .ok (.iconst 5, 1) := by decide +kernel
theorem dX4_opcodes_25 : decode cX4_opcodes 25 = .ok (.if_icmp .ne 8, 3) := by decide +kernel
theorem dX4_opcodes_28 : decode cX4_opcodes 28 = .ok (.bipush 8, 2) := by decide +kernel
theorem dX4_opcodes_30 : decode cX4_opcodes 30 = .ok (.goto 4, 3) := by decide +kernel
theorem dX4_opcodes_33 : decode cX4_opcodes 33 = .ok (.iconst 1, 1) := by decide +kernel
theorem dX4_opcodes_34 : decode cX4_opcodes 34 = .ok (.ireturn, 1) := by decide +kernel
set_option maxRecDepth 20000 in
theorem ggX4_allowsForm_X4_digitOf : GoodIn wsX4_allowsForm wsX4_digitOf := goodIn_r _ [4, 5, 6, 3, 7, 8] rfl (by decide +kernel)
set_option maxRecDepth 20000 in
theorem gX4_allowsForm_X4_digitOf : GoodIn wsX4_allowsForm (va_wsS RX4 34 yX4_digitOf wsX4_digitOf) := goodIn_app (goodIn_of _ (by decide +kernel)) ggX4_allowsForm_X4_digitOf
theorem dX4_allowsForm_0 : decode cX4_allowsForm 0 = .ok (.iload_n 0, 1) := by decide +kernel
theorem dX4_allowsForm_1 : decode cX4_allowsForm 1 = .ok (.invokestatic 34, 3) := by decide +kernel
theorem dX4_allowsForm_4 : decode cX4_allowsForm 4 = .ok (.istore_n 2, 1) := by decide +kernel
theorem dX4_allowsForm_5 : decode cX4_allowsForm 5 = .ok (.iload_n 2, 1) := by decide +kernel
theorem dX4_allowsForm_6 : decode cX4_allowsForm 6 = .ok (.ifCond .lt 9, 3) := by decide +kernel
theorem dX4_allowsForm_9 : decode cX4_allowsForm 9 = .ok (.iload_n 2, 1) := by decide +kernel
theorem dX4_allowsForm_10 : decode cX4_allowsForm 10 = .ok (.bipush 7, 2) := by decide +kernel
theorem dX4_allowsForm_12 : decode cX4_allowsForm 12 = .ok (.if_icmp .le 5, 3) := by decide +kernel
theorem dX4_allowsForm_15 : decode cX4_allowsForm 15 = .ok (.iconst 1, 1) := by decide +kernel
theorem dX4_allowsForm_16 : decode cX4_allowsForm 16 = .ok (.ireturn, 1) := by decide +kernel
theorem dX4_allowsForm_17 : decode cX4_allowsForm 17 = .ok (.iload_n 1, 1) := by decide +kernel
theorem dX4_allowsForm_18 : decode cX4_allowsForm 18 = .ok (.ifCond .lt 17, 3) := by decide +kernel
theorem dX4_allowsForm_21 : decode cX4_allowsForm 21 = .ok (.iload_n 1, 1) := by decide +kernel
theorem dX4_allowsForm_22 : decode cX4_allowsForm 22 = .ok (.iconst 3, 1) := by decide +kernel
theorem dX4_allowsForm_23 : decode cX4_allowsForm 23 = .ok (.ishr, 1) := by decide +kernel
theorem dX4_allowsForm_24 : decode cX4_allowsForm 24 = .ok (.bipush 7, 2) := by decide +kernel
theorem dX4_allowsForm_26 : decode cX4_allowsForm 26 = .ok (.iand, 1) := by decide +kernel
theorem dX4_allowsForm_27 : decode cX4_allowsForm 27 = .ok (.iload_n 2, 1) := by decide +kernel
theorem dX4_allowsForm_28 : decode cX4_allowsForm 28 = .ok (.if_icmp .ne 7, 3) := by decide +kernel
theorem dX4_allowsForm_31 : decode cX4_allowsForm 31 = .ok (.iconst 1, 1) := by decide +kernel
theorem dX4_allowsForm_32 : decode cX4_allowsForm 32 = .ok (.goto 4, 3) := by decide +kernel
theorem dX4_allowsForm_35 : decode cX4_allowsForm 35 = .ok (.iconst 0, 1) := by decide +kernel
theorem dX4_allowsForm_36 : decode cX4_allowsForm 36 = .ok (.ireturn, 1) := by decide +kernel
set_option maxRecDepth 20000 in
theorem ggX4_hasForm_X4_roleOf : GoodIn wsX4_hasForm wsX4_roleOf := goodIn_r _ [4, 5, 6, 3, 7, 8] rfl (by decide +kernel)
set_option maxRecDepth 20000 in
theorem gX4_hasForm_X4_roleOf : GoodIn wsX4_hasForm (va_wsS RX4 31 yX4_roleOf wsX4_roleOf) := goodIn_app (goodIn_of _ (by decide +kernel)) ggX4_hasForm_X4_roleOf
set_option maxRecDepth 20000 in
theorem ggX4_hasForm_X4_isFormRole : GoodIn wsX4_hasForm wsX4_isFormRole := goodIn_r _ [11] rfl (by decide +kernel)
set_option maxRecDepth 20000 in
theorem gX4_hasForm_X4_isFormRole : GoodIn wsX4_hasForm (va_wsS RX4 37 yX4_isFormRole wsX4_isFormRole) := goodIn_app (goodIn_of _ (by decide +kernel)) ggX4_hasForm_X4_isFormRole
theorem dX4_hasForm_0 : decode cX4_hasForm 0 = .ok (.iload_n 0, 1) := by decide +kernel
theorem dX4_hasForm_1 : decode cX4_hasForm 1 = .ok (.iconst 0, 1) := by decide +kernel
theorem dX4_hasForm_2 : decode cX4_hasForm 2 = .ok (.invokestatic 31, 3) := by decide +kernel
theorem dX4_hasForm_5 : decode cX4_hasForm 5 = .ok (.invokestatic 37, 3) := by decide +kernel
theorem dX4_hasForm_8 : decode cX4_hasForm 8 = .ok (.ifCond .ne 14, 3) := by decide +kernel
theorem dX4_hasForm_11 : decode cX4_hasForm 11 = .ok (.iload_n 0, 1) := by decide +kernel
theorem dX4_hasForm_12 : decode cX4_hasForm 12 = .ok (.iconst 1, 1) := by decide +kernel
theorem dX4_hasForm_13 : decode cX4_hasForm 13 = .ok (.invokestatic 31, 3) := by decide +kernel
theorem dX4_hasForm_16 : decode cX4_hasForm 16 = .ok (.invokestatic 37, 3) := by decide +kernel
theorem dX4_hasForm_19 : decode cX4_hasForm 19 = .ok (.ifCond .eq 7, 3) := by decide +kernel
theorem dX4_hasForm_22 : decode cX4_hasForm 22 = .ok (.iconst 1, 1) := by decide +kernel
theorem dX4_hasForm_23 : decode cX4_hasForm 23 = .ok (.goto 4, 3) := by decide +kernel
theorem dX4_hasForm_26 : decode cX4_hasForm 26 = .ok (.iconst 0, 1) := by decide +kernel
theorem dX4_hasForm_27 : decode cX4_hasForm 27 = .ok (.ireturn, 1) := by decide +kernel
theorem dX4_isFormRole_0 : decode cX4_isFormRole 0 = .ok (.iload_n 0, 1) := by decide +kernel
theorem dX4_isFormRole_1 : decode cX4_isFormRole 1 = .ok (.iconst 2, 1) := by decide +kernel
theorem dX4_isFormRole_2 : decode cX4_isFormRole 2 = .ok (.if_icmp .eq 13, 3) := by decide +kernel
theorem dX4_isFormRole_5 : decode cX4_isFormRole 5 = .ok (.iload_n 0, 1) := by decide +kernel
theorem dX4_isFormRole_6 : decode cX4_isFormRole 6 = .ok (.iconst 3, 1) := by decide +kernel
theorem dX4_isFormRole_7 : decode cX4_isFormRole 7 = .ok (.if_icmp .eq 8, 3) := by decide +kernel
theorem dX4_isFormRole_10 : decode cX4_isFormRole 10 = .ok (.iload_n 0, 1) := by decide +kernel
theorem dX4_isFormRole_11 : decode cX4_isFormRole 11 = .ok (.iconst 4, 1) := by decide +kernel
theorem dX4_isFormRole_12 : decode cX4_isFormRole 12 = .ok (.if_icmp .ne 7, 3) := by decide +kernel
theorem dX4_isFormRole_15 : decode cX4_isFormRole 15 = .ok (.iconst 1, 1) := by decide +kernel
theorem dX4_isFormRole_16 : decode cX4_isFormRole 16 = .ok (.goto 4, 3) := by decide +kernel
theorem dX4_isFormRole_19 : decode cX4_isFormRole 19 = .ok (.iconst 0, 1) := by decide +kernel
theorem dX4_isFormRole_20 : decode cX4_isFormRole 20 = .ok (.ireturn, 1) := by decide +kernel
theorem dX4_needsAnyPrefix_0 : decode cX4_needsAnyPrefix 0 = .ok (.iload_n 1, 1) := by decide +kernel
theorem dX4_needsAnyPrefix_1 : decode cX4_needsAnyPrefix 1 = .ok (.iconst 1, 1) := by decide +kernel
theorem dX4_needsAnyPrefix_2 : decode cX4_needsAnyPrefix 2 = .ok (.if_icmp .eq 8, 3) := by decide +kernel
theorem dX4_needsAnyPrefix_5 : decode cX4_needsAnyPrefix 5 = .ok (.iload_n 0, 1) := by decide +kernel
theorem dX4_needsAnyPrefix_6 : decode cX4_needsAnyPrefix 6 = .ok (.iconst 3, 1) := by decide +kernel
theorem dX4_needsAnyPrefix_7 : decode cX4_needsAnyPrefix 7 = .ok (.if_icmp .ne 18, 3) := by decide +kernel
theorem dX4_needsAnyPrefix_10 : decode cX4_needsAnyPrefix 10 = .ok (.iload_n 2, 1) := by decide +kernel
theorem dX4_needsAnyPrefix_11 : decode cX4_needsAnyPrefix 11 = .ok (.iconst 4, 1) := by decide +kernel
theorem dX4_needsAnyPrefix_12 : decode cX4_needsAnyPrefix 12 = .ok (.if_icmp .lt 13, 3) := by decide +kernel
theorem dX4_needsAnyPrefix_15 : decode cX4_needsAnyPrefix 15 = .ok (.iload_n 2, 1) := by decide +kernel
theorem dX4_needsAnyPrefix_16 : decode cX4_needsAnyPrefix 16 = .ok (.bipush 7, 2) := by decide +kernel
theorem dX4_needsAnyPrefix_18 : decode cX4_needsAnyPrefix 18 = .ok (.if_icmp .gt 7, 3) := by decide +kernel
theorem dX4_needsAnyPrefix_21 : decode cX4_needsAnyPrefix 21 = .ok (.iconst 1, 1) := by decide +kernel
theorem dX4_needsAnyPrefix_22 : decode cX4_needsAnyPrefix 22 = .ok (.goto 4, 3) := by decide +kernel
theorem dX4_needsAnyPrefix_25 : decode cX4_needsAnyPrefix 25 = .ok (.iconst 0, 1) := by decide +kernel
theorem dX4_needsAnyPrefix_26 : decode cX4_needsAnyPrefix 26 = .ok (.ireturn, 1) := by decide +kernel
set_option maxRecDepth 20000 in
theorem ggX4_numberOf_X4_cell : GoodIn wsX4_numberOf wsX4_cell := goodIn_r _ [4, 5] rfl (by decide +kernel)
set_option maxRecDepth 20000 in
theorem gX4_numberOf_X4_cell : GoodIn wsX4_numberOf (va_wsS RX4 13 yX4_cell wsX4_cell) := goodIn_app (goodIn_of _ (by decide +kernel)) ggX4_numberOf_X4_cell
theorem dX4_numberOf_0 : decode cX4_numberOf 0 = .ok (.iload_n 0, 1) := by decide +kernel
theorem dX4_numberOf_1 : decode cX4_numberOf 1 = .ok (.bipush 6, 2) := by decide +kernel
theorem dX4_numberOf_3 : decode cX4_numberOf 3 = .ok (.invokestatic 13, 3) := by decide +kernel
theorem dX4_numberOf_6 : decode cX4_numberOf 6 = .ok (.istore_n 2, 1) := by decide +kernel
theorem dX4_numberOf_7 : decode cX4_numberOf 7 = .ok (.iload_n 2, 1) := by decide +kernel
theorem dX4_numberOf_8 : decode cX4_numberOf 8 = .ok (.bipush 6, 2) := by decide +kernel
theorem dX4_numberOf_10 : decode cX4_numberOf 10 = .ok (.if_icmp .ne 14, 3) := by decide +kernel
theorem dX4_numberOf_13 : decode cX4_numberOf 13 = .ok (.iload_n 1, 1) := by decide +kernel
theorem dX4_numberOf_14 : decode cX4_numberOf 14 = .ok (.iconst 1, 1) := by decide +kernel
theorem dX4_numberOf_15 : decode cX4_numberOf 15 = .ok (.if_icmp .ne 7, 3) := by decide +kernel
theorem dX4_numberOf_18 : decode cX4_numberOf 18 = .ok (.iconst 1, 1) := by decide +kernel
theorem dX4_numberOf_19 : decode cX4_numberOf 19 = .ok (.goto 4, 3) := by decide +kernel
theorem dX4_numberOf_22 : decode cX4_numberOf 22 = .ok (.iconst 4, 1) := by decide +kernel
theorem dX4_numberOf_23 : decode cX4_numberOf 23 = .ok (.ireturn, 1) := by decide +kernel
theorem dX4_numberOf_24 : decode cX4_numberOf 24 = .ok (.iload_n 2, 1) := by decide +kernel
theorem dX4_numberOf_25 : decode cX4_numberOf 25 = .ok (.ireturn, 1) := by decide +kernel
theorem dX4_numberWidth_0 : decode cX4_numberWidth 0 = .ok (.iload_n 0, 1) := by decide +kernel
theorem dX4_numberWidth_1 : decode cX4_numberWidth 1 = .ok (.tableswitch 44 1 5 #[35, 35, 37, 39, 41], 35) := by decide +kernel
theorem dX4_numberWidth_36 : decode cX4_numberWidth 36 = .ok (.iconst 1, 1) := by decide +kernel
theorem dX4_numberWidth_37 : decode cX4_numberWidth 37 = .ok (.ireturn, 1) := by decide +kernel
theorem dX4_numberWidth_38 : decode cX4_numberWidth 38 = .ok (.iconst 2, 1) := by decide +kernel
theorem dX4_numberWidth_39 : decode cX4_numberWidth 39 = .ok (.ireturn, 1) := by decide +kernel
theorem dX4_numberWidth_40 : decode cX4_numberWidth 40 = .ok (.iconst 4, 1) := by decide +kernel
theorem dX4_numberWidth_41 : decode cX4_numberWidth 41 = .ok (.ireturn, 1) := by decide +kernel
theorem dX4_numberWidth_42 : decode cX4_numberWidth 42 = .ok (.bipush 8, 2) := by decide +kernel
theorem dX4_numberWidth_44 : decode cX4_numberWidth 44 = .ok (.ireturn, 1) := by decide +kernel
theorem dX4_numberWidth_45 : decode cX4_numberWidth 45 = .ok (.iconst 0, 1) := by decide +kernel
theorem dX4_numberWidth_46 : decode cX4_numberWidth 46 = .ok (.ireturn, 1) := by decide +kernel
theorem dX4_numberHasSign_0 : decode cX4_numberHasSign 0 = .ok (.iload_n 0, 1) := by decide +kernel
theorem dX4_numberHasSign_1 : decode cX4_numberHasSign 1 = .ok (.iconst 1, 1) := by decide +kernel
theorem dX4_numberHasSign_2 : decode cX4_numberHasSign 2 = .ok (.if_icmp .eq 13, 3) := by decide +kernel
theorem dX4_numberHasSign_5 : decode cX4_numberHasSign 5 = .ok (.iload_n 0, 1) := by decide +kernel
theorem dX4_numberHasSign_6 : decode cX4_numberHasSign 6 = .ok (.iconst 4, 1) := by decide +kernel
theorem dX4_numberHasSign_7 : decode cX4_numberHasSign 7 = .ok (.if_icmp .eq 8, 3) := by decide +kernel
theorem dX4_numberHasSign_10 : decode cX4_numberHasSign 10 = .ok (.iload_n 0, 1) := by decide +kernel
theorem dX4_numberHasSign_11 : decode cX4_numberHasSign 11 = .ok (.iconst 5, 1) := by decide +kernel
theorem dX4_numberHasSign_12 : decode cX4_numberHasSign 12 = .ok (.if_icmp .ne 7, 3) := by decide +kernel
theorem dX4_numberHasSign_15 : decode cX4_numberHasSign 15 = .ok (.iconst 1, 1) := by decide +kernel
theorem dX4_numberHasSign_16 : decode cX4_numberHasSign 16 = .ok (.goto 4, 3) := by decide +kernel
theorem dX4_numberHasSign_19 : decode cX4_numberHasSign 19 = .ok (.iconst 0, 1) := by decide +kernel
theorem dX4_numberHasSign_20 : decode cX4_numberHasSign 20 = .ok (.ireturn, 1) := by decide +kernel
theorem dX4_numberFits_0 : decode cX4_numberFits 0 = .ok (.iload_n 0, 1) := by decide +kernel
theorem dX4_numberFits_1 : decode cX4_numberFits 1 = .ok (.tableswitch 126 1 7 #[43, 58, 78, 98, 112, 126, 114], 43) := by decide +kernel
theorem dX4_numberFits_44 : decode cX4_numberFits 44 = .ok (.lload_n 1, 1) := by decide +kernel
theorem dX4_numberFits_45 : decode cX4_numberFits 45 = .ok (.lload_n 1, 1) := by decide +kernel
theorem dX4_numberFits_46 : decode cX4_numberFits 46 = .ok (.l2i, 1) := by decide +kernel
theorem dX4_numberFits_47 : decode cX4_numberFits 47 = .ok (.i2b, 1) := by decide +kernel
theorem dX4_numberFits_48 : decode cX4_numberFits 48 = .ok (.i2l, 1) := by decide +kernel
theorem dX4_numberFits_49 : decode cX4_numberFits 49 = .ok (.lcmp, 1) := by decide +kernel
theorem dX4_numberFits_50 : decode cX4_numberFits 50 = .ok (.ifCond .ne 7, 3) := by decide +kernel
theorem dX4_numberFits_53 : decode cX4_numberFits 53 = .ok (.iconst 1, 1) := by decide +kernel
theorem dX4_numberFits_54 : decode cX4_numberFits 54 = .ok (.goto 4, 3) := by decide +kernel
theorem dX4_numberFits_57 : decode cX4_numberFits 57 = .ok (.iconst 0, 1) := by decide +kernel
theorem dX4_numberFits_58 : decode cX4_numberFits 58 = .ok (.ireturn, 1) := by decide +kernel
theorem dX4_numberFits_59 : decode cX4_numberFits 59 = .ok (.lload_n 1, 1) := by decide +kernel
theorem dX4_numberFits_60 : decode cX4_numberFits 60 = .ok (.lconst 0, 1) := by decide +kernel
theorem dX4_numberFits_61 : decode cX4_numberFits 61 = .ok (.lcmp, 1) := by decide +kernel
theorem dX4_numberFits_62 : decode cX4_numberFits 62 = .ok (.ifCond .lt 15, 3) := by decide +kernel
theorem dX4_numberFits_65 : decode cX4_numberFits 65 = .ok (.lload_n 1, 1) := by decide +kernel
theorem dX4_numberFits_66 : decode cX4_numberFits 66 = .ok (.ldc2_w 40, 3) := by decide +kernel
theorem dX4_numberFits_69 : decode cX4_numberFits 69 = .ok (.lcmp, 1) := by decide +kernel
theorem dX4_numberFits_70 : decode cX4_numberFits 70 = .ok (.ifCond .gt 7, 3) := by decide +kernel
theorem dX4_numberFits_73 : decode cX4_numberFits 73 = .ok (.iconst 1, 1) := by decide +kernel
theorem dX4_numberFits_74 : decode cX4_numberFits 74 = .ok (.goto 4, 3) := by decide +kernel
theorem dX4_numberFits_77 : decode cX4_numberFits 77 = .ok (.iconst 0, 1) := by decide +kernel
theorem dX4_numberFits_78 : decode cX4_numberFits 78 = .ok (.ireturn, 1) := by decide +kernel
theorem dX4_numberFits_79 : decode cX4_numberFits 79 = .ok (.lload_n 1, 1) := by decide +kernel
theorem dX4_numberFits_80 : decode cX4_numberFits 80 = .ok (.lconst 0, 1) := by decide +kernel
theorem dX4_numberFits_81 : decode cX4_numberFits 81 = .ok (.lcmp, 1) := by decide +kernel
theorem dX4_numberFits_82 : decode cX4_numberFits 82 = .ok (.ifCond .lt 15, 3) := by decide +kernel
theorem dX4_numberFits_85 : decode cX4_numberFits 85 = .ok (.lload_n 1, 1) := by decide +kernel
theorem dX4_numberFits_86 : decode cX4_numberFits 86 = .ok (.ldc2_w 42, 3) := by decide +kernel
theorem dX4_numberFits_89 : decode cX4_numberFits 89 = .ok (.lcmp, 1) := by decide +kernel
theorem dX4_numberFits_90 : decode cX4_numberFits 90 = .ok (.ifCond .gt 7, 3) := by decide +kernel
theorem dX4_numberFits_93 : decode cX4_numberFits 93 = .ok (.iconst 1, 1) := by decide +kernel
theorem dX4_numberFits_94 : decode cX4_numberFits 94 = .ok (.goto 4, 3) := by decide +kernel
theorem dX4_numberFits_97 : decode cX4_numberFits 97 = .ok (.iconst 0, 1) := by decide +kernel
theorem dX4_numberFits_98 : decode cX4_numberFits 98 = .ok (.ireturn, 1) := by decide +kernel
theorem dX4_numberFits_99 : decode cX4_numberFits 99 = .ok (.lload_n 1, 1) := by decide +kernel
theorem dX4_numberFits_100 : decode cX4_numberFits 100 = .ok (.lload_n 1, 1) := by decide +kernel
theorem dX4_numberFits_101 : decode cX4_numberFits 101 = .ok (.l2i, 1) := by decide +kernel
theorem dX4_numberFits_102 : decode cX4_numberFits 102 = .ok (.i2l, 1) := by decide +kernel
theorem dX4_numberFits_103 : decode cX4_numberFits 103 = .ok (.lcmp, 1) := by decide +kernel
theorem dX4_numberFits_104 : decode cX4_numberFits 104 = .ok (.ifCond .ne 7, 3) := by decide +kernel
theorem dX4_numberFits_107 : decode cX4_numberFits 107 = .ok (.iconst 1, 1) := by decide +kernel
theorem dX4_numberFits_108 : decode cX4_numberFits 108 = .ok (.goto 4, 3) := by decide +kernel
theorem dX4_numberFits_111 : decode cX4_numberFits 111 = .ok (.iconst 0, 1) := by decide +kernel
theorem dX4_numberFits_112 : decode cX4_numberFits 112 = .ok (.ireturn, 1) := by decide +kernel
theorem dX4_numberFits_113 : decode cX4_numberFits 113 = .ok (.iconst 1, 1) := by decide +kernel
theorem dX4_numberFits_114 : decode cX4_numberFits 114 = .ok (.ireturn, 1) := by decide +kernel
theorem dX4_numberFits_115 : decode cX4_numberFits 115 = .ok (.lload_n 1, 1) := by decide +kernel
theorem dX4_numberFits_116 : decode cX4_numberFits 116 = .ok (.lconst 1, 1) := by decide +kernel
theorem dX4_numberFits_117 : decode cX4_numberFits 117 = .ok (.lcmp, 1) := by decide +kernel
theorem dX4_numberFits_118 : decode cX4_numberFits 118 = .ok (.ifCond .ne 7, 3) := by decide +kernel
theorem dX4_numberFits_121 : decode cX4_numberFits 121 = .ok (.iconst 1, 1) := by decide +kernel
theorem dX4_numberFits_122 : decode cX4_numberFits 122 = .ok (.goto 4, 3) := by decide +kernel
theorem dX4_numberFits_125 : decode cX4_numberFits 125 = .ok (.iconst 0, 1) := by decide +kernel
theorem dX4_numberFits_126 : decode cX4_numberFits 126 = .ok (.ireturn, 1) := by decide +kernel
theorem dX4_numberFits_127 : decode cX4_numberFits 127 = .ok (.iconst 0, 1) := by decide +kernel
theorem dX4_numberFits_128 : decode cX4_numberFits 128 = .ok (.ireturn, 1) := by decide +kernel
