set_option maxRecDepth 20000 in
theorem ggX5_init_X0_init : GoodIn wsX5_init wsX0_init := goodIn_r _ [14, 15, 2, 3, 16, 17, 18, 19, 20, 21, 22, 23, 24, 25, 26, 27, 28, 29, 30, 31, 32, 33, 34, 35, 36, 37, 38, 39, 45, 46, 47, 48, 49, 50, 51, 56, 57, 58, 59] rfl (by decide +kernel)
set_option maxRecDepth 20000 in
theorem gX5_init_X0_init : GoodIn wsX5_init (wsX0_init) := ggX5_init_X0_init
set_option maxRecDepth 20000 in
theorem ggX5_init_X2_init : GoodIn wsX5_init wsX2_init := goodIn_r _ [42, 43, 2, 3, 17, 44, 54, 55] rfl (by decide +kernel)
set_option maxRecDepth 20000 in
theorem gX5_init_X2_init : GoodIn wsX5_init (wsX2_init) := ggX5_init_X2_init
theorem dX5_init_0 : decode cX5_init 0 = .ok (.aload_n 0, 1) := by decide +kernel
theorem dX5_init_1 : decode cX5_init 1 = .ok (.invokespecial 3, 3) := by decide +kernel
theorem dX5_init_4 : decode cX5_init 4 = .ok (.aload_n 0, 1) := by decide +kernel
theorem dX5_init_5 : decode cX5_init 5 = .ok (.new 9, 3) := by decide +kernel
theorem dX5_init_8 : decode cX5_init 8 = .ok (.dup, 1) := by decide +kernel
theorem dX5_init_9 : decode cX5_init 9 = .ok (.invokespecial 11, 3) := by decide +kernel
theorem dX5_init_12 : decode cX5_init 12 = .ok (.putfield 12, 3) := by decide +kernel
theorem dX5_init_15 : decode cX5_init 15 = .ok (.aload_n 0, 1) := by decide +kernel
theorem dX5_init_16 : decode cX5_init 16 = .ok (.new 18, 3) := by decide +kernel
theorem dX5_init_19 : decode cX5_init 19 = .ok (.dup, 1) := by decide +kernel
theorem dX5_init_20 : decode cX5_init 20 = .ok (.invokespecial 20, 3) := by decide +kernel
theorem dX5_init_23 : decode cX5_init 23 = .ok (.putfield 21, 3) := by decide +kernel
theorem dX5_init_26 : decode cX5_init 26 = .ok (.return_, 1) := by decide +kernel
set_option maxRecDepth 20000 in
theorem ggX5_canTell_X4_opOf : GoodIn wsX5_canTell wsX4_opOf := goodIn_r _ [5, 6, 7, 4, 8, 9] rfl (by decide +kernel)
set_option maxRecDepth 20000 in
theorem gX5_canTell_X4_opOf : GoodIn wsX5_canTell (va_wsS RX5 25 yX4_opOf wsX4_opOf) := goodIn_app (goodIn_of _ (by decide +kernel)) ggX5_canTell_X4_opOf
set_option maxRecDepth 20000 in
theorem ggX5_canTell_X4_hasSize : GoodIn wsX5_canTell wsX4_hasSize := goodIn_r _ [12, 6, 7, 4, 8, 9] rfl (by decide +kernel)
set_option maxRecDepth 20000 in
theorem gX5_canTell_X4_hasSize : GoodIn wsX5_canTell (va_wsS RX5 38 yX4_hasSize wsX4_hasSize) := goodIn_app (goodIn_of _ (by decide +kernel)) ggX5_canTell_X4_hasSize
set_option maxRecDepth 20000 in
theorem ggX5_canTell_X4_hasCondition : GoodIn wsX5_canTell wsX4_hasCondition := goodIn_r _ [15, 6, 7, 4, 8, 9] rfl (by decide +kernel)
set_option maxRecDepth 20000 in
theorem gX5_canTell_X4_hasCondition : GoodIn wsX5_canTell (va_wsS RX5 42 yX4_hasCondition wsX4_hasCondition) := goodIn_app (goodIn_of _ (by decide +kernel)) ggX5_canTell_X4_hasCondition
set_option maxRecDepth 20000 in
theorem ggX5_canTell_X5_canTellOperand : GoodIn wsX5_canTell wsX5_canTellOperand := goodIn_r _ [20, 1, 21, 22, 23, 24, 25, 26, 27, 28, 29, 30, 31, 32, 33, 34, 35, 36, 4, 37, 6, 7, 8, 9, 38, 39, 40, 41, 42, 43, 44, 45, 46, 47, 48, 49, 50, 51, 52, 53, 54, 55, 56, 57, 58, 59, 60, 61, 62, 63] rfl (by decide +kernel)
set_option maxRecDepth 20000 in
theorem gX5_canTell_X5_canTellOperand : GoodIn wsX5_canTell (wsV RX5 49 RX5 yX5_canTellOperand wsX5_canTellOperand) := goodIn_app (goodIn_of _ (by decide +kernel)) ggX5_canTell_X5_canTellOperand
theorem dX5_canTell_0 : decode cX5_canTell 0 = .ok (.iload_n 1, 1) := by decide +kernel
theorem dX5_canTell_1 : decode cX5_canTell 1 = .ok (.invokestatic 25, 3) := by decide +kernel
theorem dX5_canTell_4 : decode cX5_canTell 4 = .ok (.aload_n 0, 1) := by decide +kernel
theorem dX5_canTell_5 : decode cX5_canTell 5 = .ok (.getfield 12, 3) := by decide +kernel
theorem dX5_canTell_8 : decode cX5_canTell 8 = .ok (.getfield 31, 3) := by decide +kernel
theorem dX5_canTell_11 : decode cX5_canTell 11 = .ok (.if_icmp .ne 17, 3) := by decide +kernel
theorem dX5_canTell_14 : decode cX5_canTell 14 = .ok (.iload_n 1, 1) := by decide +kernel
theorem dX5_canTell_15 : decode cX5_canTell 15 = .ok (.aload_n 0, 1) := by decide +kernel
theorem dX5_canTell_16 : decode cX5_canTell 16 = .ok (.getfield 12, 3) := by decide +kernel
theorem dX5_canTell_19 : decode cX5_canTell 19 = .ok (.getfield 35, 3) := by decide +kernel
theorem dX5_canTell_22 : decode cX5_canTell 22 = .ok (.invokestatic 38, 3) := by decide +kernel
theorem dX5_canTell_25 : decode cX5_canTell 25 = .ok (.ifCond .ne 5, 3) := by decide +kernel
theorem dX5_canTell_28 : decode cX5_canTell 28 = .ok (.iconst 0, 1) := by decide +kernel
theorem dX5_canTell_29 : decode cX5_canTell 29 = .ok (.ireturn, 1) := by decide +kernel
theorem dX5_canTell_30 : decode cX5_canTell 30 = .ok (.iload_n 1, 1) := by decide +kernel
theorem dX5_canTell_31 : decode cX5_canTell 31 = .ok (.invokestatic 42, 3) := by decide +kernel
theorem dX5_canTell_34 : decode cX5_canTell 34 = .ok (.ifCond .eq 8, 3) := by decide +kernel
theorem dX5_canTell_37 : decode cX5_canTell 37 = .ok (.bipush 15, 2) := by decide +kernel
theorem dX5_canTell_39 : decode cX5_canTell 39 = .ok (.goto 4, 3) := by decide +kernel
theorem dX5_canTell_42 : decode cX5_canTell 42 = .ok (.iconst 0, 1) := by decide +kernel
theorem dX5_canTell_43 : decode cX5_canTell 43 = .ok (.istore_n 2, 1) := by decide +kernel
theorem dX5_canTell_44 : decode cX5_canTell 44 = .ok (.aload_n 0, 1) := by decide +kernel
theorem dX5_canTell_45 : decode cX5_canTell 45 = .ok (.getfield 12, 3) := by decide +kernel
theorem dX5_canTell_48 : decode cX5_canTell 48 = .ok (.getfield 46, 3) := by decide +kernel
theorem dX5_canTell_51 : decode cX5_canTell 51 = .ok (.ifCond .lt 14, 3) := by decide +kernel
theorem dX5_canTell_54 : decode cX5_canTell 54 = .ok (.aload_n 0, 1) := by decide +kernel
theorem dX5_canTell_55 : decode cX5_canTell 55 = .ok (.getfield 12, 3) := by decide +kernel
theorem dX5_canTell_58 : decode cX5_canTell 58 = .ok (.getfield 46, 3) := by decide +kernel
theorem dX5_canTell_61 : decode cX5_canTell 61 = .ok (.iload_n 2, 1) := by decide +kernel
theorem dX5_canTell_62 : decode cX5_canTell 62 = .ok (.if_icmp .le 5, 3) := by decide +kernel
theorem dX5_canTell_65 : decode cX5_canTell 65 = .ok (.iconst 0, 1) := by decide +kernel
theorem dX5_canTell_66 : decode cX5_canTell 66 = .ok (.ireturn, 1) := by decide +kernel
theorem dX5_canTell_67 : decode cX5_canTell 67 = .ok (.iconst 0, 1) := by decide +kernel
theorem dX5_canTell_68 : decode cX5_canTell 68 = .ok (.istore_n 3, 1) := by decide +kernel
theorem dX5_canTell_69 : decode cX5_canTell 69 = .ok (.iload_n 3, 1) := by decide +kernel
theorem dX5_canTell_70 : decode cX5_canTell 70 = .ok (.iconst 3, 1) := by decide +kernel
theorem dX5_canTell_71 : decode cX5_canTell 71 = .ok (.if_icmp .ge 20, 3) := by decide +kernel
theorem dX5_canTell_74 : decode cX5_canTell 74 = .ok (.aload_n 0, 1) := by decide +kernel
theorem dX5_canTell_75 : decode cX5_canTell 75 = .ok (.iload_n 1, 1) := by decide +kernel
theorem dX5_canTell_76 : decode cX5_canTell 76 = .ok (.iload_n 3, 1) := by decide +kernel
theorem dX5_canTell_77 : decode cX5_canTell 77 = .ok (.invokevirtual 49, 3) := by decide +kernel
theorem dX5_canTell_80 : decode cX5_canTell 80 = .ok (.ifCond .ne 5, 3) := by decide +kernel
theorem dX5_canTell_83 : decode cX5_canTell 83 = .ok (.iconst 0, 1) := by decide +kernel
theorem dX5_canTell_84 : decode cX5_canTell 84 = .ok (.ireturn, 1) := by decide +kernel
theorem dX5_canTell_85 : decode cX5_canTell 85 = .ok (.iinc 3 1, 3) := by decide +kernel
theorem dX5_canTell_88 : decode cX5_canTell 88 = .ok (.goto (-19), 3) := by decide +kernel
theorem dX5_canTell_91 : decode cX5_canTell 91 = .ok (.iconst 1, 1) := by decide +kernel
theorem dX5_canTell_92 : decode cX5_canTell 92 = .ok (.ireturn, 1) := by decide +kernel
set_option maxRecDepth 20000 in
theorem ggX5_canTellOperand_X0_kindOf : GoodIn wsX5_canTellOperand wsX0_kindOf := goodIn_r _ [6, 7, 39, 40, 41, 42, 43, 44, 45] rfl (by decide +kernel)
set_option maxRecDepth 20000 in
theorem gX5_canTellOperand_X0_kindOf : GoodIn wsX5_canTellOperand (wsV RX5 52 RX0 yX0_kindOf wsX0_kindOf) := goodIn_app (goodIn_of _ (by decide +kernel)) ggX5_canTellOperand_X0_kindOf
set_option maxRecDepth 20000 in
theorem ggX5_canTellOperand_X1_isSound : GoodIn wsX5_canTellOperand wsX1_isSound := goodIn_r _ [12, 13, 14, 15, 46, 47, 48, 49] rfl (by decide +kernel)
set_option maxRecDepth 20000 in
theorem gX5_canTellOperand_X1_isSound : GoodIn wsX5_canTellOperand (wsV RX5 59 RX1 yX1_isSound wsX1_isSound) := goodIn_app (goodIn_of _ (by decide +kernel)) ggX5_canTellOperand_X1_isSound
set_option maxRecDepth 20000 in
theorem ggX5_canTellOperand_X4_roleOf : GoodIn wsX5_canTellOperand wsX4_roleOf := goodIn_r _ [19, 20, 21, 18, 22, 23] rfl (by decide +kernel)
set_option maxRecDepth 20000 in
theorem gX5_canTellOperand_X4_roleOf : GoodIn wsX5_canTellOperand (va_wsS RX5 65 yX4_roleOf wsX4_roleOf) := goodIn_app (goodIn_of _ (by decide +kernel)) ggX5_canTellOperand_X4_roleOf
set_option maxRecDepth 20000 in
theorem ggX5_canTellOperand_X0_registerOf : GoodIn wsX5_canTellOperand wsX0_registerOf := goodIn_r _ [27, 28, 39, 40, 41, 42, 43, 44, 45] rfl (by decide +kernel)
set_option maxRecDepth 20000 in
theorem gX5_canTellOperand_X0_registerOf : GoodIn wsX5_canTellOperand (wsV RX5 69 RX0 yX0_registerOf wsX0_registerOf) := goodIn_app (goodIn_of _ (by decide +kernel)) ggX5_canTellOperand_X0_registerOf
set_option maxRecDepth 20000 in
theorem ggX5_canTellOperand_X4_numberOf : GoodIn wsX5_canTellOperand wsX4_numberOf := goodIn_r _ [31, 20, 21, 18, 22, 23] rfl (by decide +kernel)
set_option maxRecDepth 20000 in
theorem gX5_canTellOperand_X4_numberOf : GoodIn wsX5_canTellOperand (va_wsS RX5 72 yX4_numberOf wsX4_numberOf) := goodIn_app (goodIn_of _ (by decide +kernel)) ggX5_canTellOperand_X4_numberOf
set_option maxRecDepth 20000 in
theorem ggX5_canTellOperand_X4_numberFits : GoodIn wsX5_canTellOperand wsX4_numberFits := goodIn_r _ [34, 35, 36] rfl (by decide +kernel)
set_option maxRecDepth 20000 in
theorem gX5_canTellOperand_X4_numberFits : GoodIn wsX5_canTellOperand (va_wsS RX5 79 yX4_numberFits wsX4_numberFits) := goodIn_app (goodIn_of _ (by decide +kernel)) ggX5_canTellOperand_X4_numberFits
theorem dX5_canTellOperand_0 : decode cX5_canTellOperand 0 = .ok (.aload_n 0, 1) := by decide +kernel
theorem dX5_canTellOperand_1 : decode cX5_canTellOperand 1 = .ok (.getfield 12, 3) := by decide +kernel
theorem dX5_canTellOperand_4 : decode cX5_canTellOperand 4 = .ok (.iload_n 2, 1) := by decide +kernel
theorem dX5_canTellOperand_5 : decode cX5_canTellOperand 5 = .ok (.invokevirtual 52, 3) := by decide +kernel
theorem dX5_canTellOperand_8 : decode cX5_canTellOperand 8 = .ok (.istore_n 3, 1) := by decide +kernel
theorem dX5_canTellOperand_9 : decode cX5_canTellOperand 9 = .ok (.iload_n 3, 1) := by decide +kernel
theorem dX5_canTellOperand_10 : decode cX5_canTellOperand 10 = .ok (.iconst 1, 1) := by decide +kernel
theorem dX5_canTellOperand_11 : decode cX5_canTellOperand 11 = .ok (.if_icmp .ne 7, 3) := by decide +kernel
theorem dX5_canTellOperand_14 : decode cX5_canTellOperand 14 = .ok (.iconst 1, 1) := by decide +kernel
theorem dX5_canTellOperand_15 : decode cX5_canTellOperand 15 = .ok (.goto 4, 3) := by decide +kernel
theorem dX5_canTellOperand_18 : decode cX5_canTellOperand 18 = .ok (.iconst 0, 1) := by decide +kernel
theorem dX5_canTellOperand_19 : decode cX5_canTellOperand 19 = .ok (.istore 4, 2) := by decide +kernel
theorem dX5_canTellOperand_21 : decode cX5_canTellOperand 21 = .ok (.iload_n 3, 1) := by decide +kernel
theorem dX5_canTellOperand_22 : decode cX5_canTellOperand 22 = .ok (.iconst 2, 1) := by decide +kernel
theorem dX5_canTellOperand_23 : decode cX5_canTellOperand 23 = .ok (.if_icmp .ne 20, 3) := by decide +kernel
theorem dX5_canTellOperand_26 : decode cX5_canTellOperand 26 = .ok (.aload_n 0, 1) := by decide +kernel
theorem dX5_canTellOperand_27 : decode cX5_canTellOperand 27 = .ok (.getfield 12, 3) := by decide +kernel
theorem dX5_canTellOperand_30 : decode cX5_canTellOperand 30 = .ok (.getfield 55, 3) := by decide +kernel
theorem dX5_canTellOperand_33 : decode cX5_canTellOperand 33 = .ok (.invokevirtual 59, 3) := by decide +kernel
theorem dX5_canTellOperand_36 : decode cX5_canTellOperand 36 = .ok (.ifCond .eq 7, 3) := by decide +kernel
theorem dX5_canTellOperand_39 : decode cX5_canTellOperand 39 = .ok (.iconst 1, 1) := by decide +kernel
theorem dX5_canTellOperand_40 : decode cX5_canTellOperand 40 = .ok (.goto 4, 3) := by decide +kernel
theorem dX5_canTellOperand_43 : decode cX5_canTellOperand 43 = .ok (.iconst 0, 1) := by decide +kernel
theorem dX5_canTellOperand_44 : decode cX5_canTellOperand 44 = .ok (.istore 5, 2) := by decide +kernel
theorem dX5_canTellOperand_46 : decode cX5_canTellOperand 46 = .ok (.iload_n 1, 1) := by decide +kernel
theorem dX5_canTellOperand_47 : decode cX5_canTellOperand 47 = .ok (.iload_n 2, 1) := by decide +kernel
theorem dX5_canTellOperand_48 : decode cX5_canTellOperand 48 = .ok (.invokestatic 65, 3) := by decide +kernel
theorem dX5_canTellOperand_51 : decode cX5_canTellOperand 51 = .ok (.tableswitch 147 1 8 #[45, 48, 48, 64, 45, 67, 89, 112], 45) := by decide +kernel
theorem dX5_canTellOperand_96 : decode cX5_canTellOperand 96 = .ok (.iload 4, 2) := by decide +kernel
theorem dX5_canTellOperand_98 : decode cX5_canTellOperand 98 = .ok (.ireturn, 1) := by decide +kernel
theorem dX5_canTellOperand_99 : decode cX5_canTellOperand 99 = .ok (.iload 4, 2) := by decide +kernel
theorem dX5_canTellOperand_101 : decode cX5_canTellOperand 101 = .ok (.ifCond .ne 8, 3) := by decide +kernel
theorem dX5_canTellOperand_104 : decode cX5_canTellOperand 104 = .ok (.iload 5, 2) := by decide +kernel
theorem dX5_canTellOperand_106 : decode cX5_canTellOperand 106 = .ok (.ifCond .eq 7, 3) := by decide +kernel
theorem dX5_canTellOperand_109 : decode cX5_canTellOperand 109 = .ok (.iconst 1, 1) := by decide +kernel
theorem dX5_canTellOperand_110 : decode cX5_canTellOperand 110 = .ok (.goto 4, 3) := by decide +kernel
theorem dX5_canTellOperand_113 : decode cX5_canTellOperand 113 = .ok (.iconst 0, 1) := by decide +kernel
theorem dX5_canTellOperand_114 : decode cX5_canTellOperand 114 = .ok (.ireturn, 1) := by decide +kernel
theorem dX5_canTellOperand_115 : decode cX5_canTellOperand 115 = .ok (.iload 5, 2) := by decide +kernel
theorem dX5_canTellOperand_117 : decode cX5_canTellOperand 117 = .ok (.ireturn, 1) := by decide +kernel
theorem dX5_canTellOperand_118 : decode cX5_canTellOperand 118 = .ok (.iload 4, 2) := by decide +kernel
theorem dX5_canTellOperand_120 : decode cX5_canTellOperand 120 = .ok (.ifCond .eq 18, 3) := by decide +kernel
theorem dX5_canTellOperand_123 : decode cX5_canTellOperand 123 = .ok (.aload_n 0, 1) := by decide +kernel
theorem dX5_canTellOperand_124 : decode cX5_canTellOperand 124 = .ok (.getfield 12, 3) := by decide +kernel
theorem dX5_canTellOperand_127 : decode cX5_canTellOperand 127 = .ok (.iload_n 2, 1) := by decide +kernel
theorem dX5_canTellOperand_128 : decode cX5_canTellOperand 128 = .ok (.invokevirtual 69, 3) := by decide +kernel
theorem dX5_canTellOperand_131 : decode cX5_canTellOperand 131 = .ok (.ifCond .ne 7, 3) := by decide +kernel
theorem dX5_canTellOperand_134 : decode cX5_canTellOperand 134 = .ok (.iconst 1, 1) := by decide +kernel
theorem dX5_canTellOperand_135 : decode cX5_canTellOperand 135 = .ok (.goto 4, 3) := by decide +kernel
theorem dX5_canTellOperand_138 : decode cX5_canTellOperand 138 = .ok (.iconst 0, 1) := by decide +kernel
theorem dX5_canTellOperand_139 : decode cX5_canTellOperand 139 = .ok (.ireturn, 1) := by decide +kernel
theorem dX5_canTellOperand_140 : decode cX5_canTellOperand 140 = .ok (.iload 4, 2) := by decide +kernel
theorem dX5_canTellOperand_142 : decode cX5_canTellOperand 142 = .ok (.ifCond .eq 19, 3) := by decide +kernel
theorem dX5_canTellOperand_145 : decode cX5_canTellOperand 145 = .ok (.aload_n 0, 1) := by decide +kernel
theorem dX5_canTellOperand_146 : decode cX5_canTellOperand 146 = .ok (.getfield 12, 3) := by decide +kernel
theorem dX5_canTellOperand_149 : decode cX5_canTellOperand 149 = .ok (.iload_n 2, 1) := by decide +kernel
theorem dX5_canTellOperand_150 : decode cX5_canTellOperand 150 = .ok (.invokevirtual 69, 3) := by decide +kernel
theorem dX5_canTellOperand_153 : decode cX5_canTellOperand 153 = .ok (.iconst 1, 1) := by decide +kernel
theorem dX5_canTellOperand_154 : decode cX5_canTellOperand 154 = .ok (.if_icmp .ne 7, 3) := by decide +kernel
theorem dX5_canTellOperand_157 : decode cX5_canTellOperand 157 = .ok (.iconst 1, 1) := by decide +kernel
theorem dX5_canTellOperand_158 : decode cX5_canTellOperand 158 = .ok (.goto 4, 3) := by decide +kernel
theorem dX5_canTellOperand_161 : decode cX5_canTellOperand 161 = .ok (.iconst 0, 1) := by decide +kernel
theorem dX5_canTellOperand_162 : decode cX5_canTellOperand 162 = .ok (.ireturn, 1) := by decide +kernel
theorem dX5_canTellOperand_163 : decode cX5_canTellOperand 163 = .ok (.iload_n 3, 1) := by decide +kernel
theorem dX5_canTellOperand_164 : decode cX5_canTellOperand 164 = .ok (.iconst 3, 1) := by decide +kernel
theorem dX5_canTellOperand_165 : decode cX5_canTellOperand 165 = .ok (.if_icmp .ne 31, 3) := by decide +kernel
theorem dX5_canTellOperand_168 : decode cX5_canTellOperand 168 = .ok (.iload_n 1, 1) := by decide +kernel
theorem dX5_canTellOperand_169 : decode cX5_canTellOperand 169 = .ok (.aload_n 0, 1) := by decide +kernel
theorem dX5_canTellOperand_170 : decode cX5_canTellOperand 170 = .ok (.getfield 12, 3) := by decide +kernel
theorem dX5_canTellOperand_173 : decode cX5_canTellOperand 173 = .ok (.getfield 35, 3) := by decide +kernel
theorem dX5_canTellOperand_176 : decode cX5_canTellOperand 176 = .ok (.invokestatic 72, 3) := by decide +kernel
theorem dX5_canTellOperand_179 : decode cX5_canTellOperand 179 = .ok (.aload_n 0, 1) := by decide +kernel
theorem dX5_canTellOperand_180 : decode cX5_canTellOperand 180 = .ok (.getfield 12, 3) := by decide +kernel
theorem dX5_canTellOperand_183 : decode cX5_canTellOperand 183 = .ok (.getfield 75, 3) := by decide +kernel
theorem dX5_canTellOperand_186 : decode cX5_canTellOperand 186 = .ok (.invokestatic 79, 3) := by decide +kernel
theorem dX5_canTellOperand_189 : decode cX5_canTellOperand 189 = .ok (.ifCond .eq 7, 3) := by decide +kernel
theorem dX5_canTellOperand_192 : decode cX5_canTellOperand 192 = .ok (.iconst 1, 1) := by decide +kernel
theorem dX5_canTellOperand_193 : decode cX5_canTellOperand 193 = .ok (.goto 4, 3) := by decide +kernel
theorem dX5_canTellOperand_196 : decode cX5_canTellOperand 196 = .ok (.iconst 0, 1) := by decide +kernel
theorem dX5_canTellOperand_197 : decode cX5_canTellOperand 197 = .ok (.ireturn, 1) := by decide +kernel
theorem dX5_canTellOperand_198 : decode cX5_canTellOperand 198 = .ok (.iload_n 3, 1) := by decide +kernel
theorem dX5_canTellOperand_199 : decode cX5_canTellOperand 199 = .ok (.ifCond .ne 7, 3) := by decide +kernel
theorem dX5_canTellOperand_202 : decode cX5_canTellOperand 202 = .ok (.iconst 1, 1) := by decide +kernel
theorem dX5_canTellOperand_203 : decode cX5_canTellOperand 203 = .ok (.goto 4, 3) := by decide +kernel
theorem dX5_canTellOperand_206 : decode cX5_canTellOperand 206 = .ok (.iconst 0, 1) := by decide +kernel
theorem dX5_canTellOperand_207 : decode cX5_canTellOperand 207 = .ok (.ireturn, 1) := by decide +kernel
set_option maxRecDepth 20000 in
theorem ggX5_write_X2_clear : GoodIn wsX5_write wsX2_clear := goodIn_r _ [7, 8, 138, 139] rfl (by decide +kernel)
set_option maxRecDepth 20000 in
theorem gX5_write_X2_clear : GoodIn wsX5_write (wsV RX5 83 RX2 yX2_clear wsX2_clear) := goodIn_app (goodIn_of _ (by decide +kernel)) ggX5_write_X2_clear
set_option maxRecDepth 20000 in
theorem ggX5_write_X4_isRepeated : GoodIn wsX5_write wsX4_isRepeated := goodIn_r _ [12, 13, 14, 11, 15, 16] rfl (by decide +kernel)
set_option maxRecDepth 20000 in
theorem gX5_write_X4_isRepeated : GoodIn wsX5_write (va_wsS RX5 86 yX4_isRepeated wsX4_isRepeated) := goodIn_app (goodIn_of _ (by decide +kernel)) ggX5_write_X4_isRepeated
set_option maxRecDepth 20000 in
theorem ggX5_write_X2_append : GoodIn wsX5_write wsX2_append := goodIn_r _ [20, 8, 21, 138, 139] rfl (by decide +kernel)
set_option maxRecDepth 20000 in
theorem gX5_write_X2_append : GoodIn wsX5_write (wsV RX5 89 RX2 yX2_append wsX2_append) := goodIn_app (goodIn_of _ (by decide +kernel)) ggX5_write_X2_append
set_option maxRecDepth 20000 in
theorem ggX5_write_X5_writePrefix : GoodIn wsX5_write wsX5_writePrefix := goodIn_r _ [26, 2, 1, 27, 28, 11, 29, 13, 14, 15, 16, 30, 31, 32, 33, 34, 35, 25, 36, 37, 38, 39, 40, 41, 42, 43, 44, 45, 46, 47, 48, 49, 50, 51, 52, 53, 54, 55, 56, 57, 58, 59, 60, 61, 17, 18, 19, 6, 20, 8, 21, 129, 130, 131, 132, 133, 134, 135, 136, 137, 140, 141, 142, 143, 138, 139] rfl (by decide +kernel)
set_option maxRecDepth 20000 in
theorem gX5_write_X5_writePrefix : GoodIn wsX5_write (wsV RX5 93 RX5 yX5_writePrefix wsX5_writePrefix) := goodIn_app (goodIn_of _ (by decide +kernel)) ggX5_write_X5_writePrefix
set_option maxRecDepth 20000 in
theorem ggX5_write_X5_writeOpcode : GoodIn wsX5_write wsX5_writeOpcode := goodIn_r _ [65, 2, 1, 66, 67, 11, 68, 13, 14, 15, 16, 69, 70, 71, 72, 73, 74, 30, 31, 32, 54, 55, 56, 40, 57, 58, 17, 18, 19, 6, 20, 8, 21, 129, 130, 131, 132, 133, 134, 135, 136, 137, 138, 139] rfl (by decide +kernel)
set_option maxRecDepth 20000 in
theorem gX5_write_X5_writeOpcode : GoodIn wsX5_write (wsV RX5 96 RX5 yX5_writeOpcode wsX5_writeOpcode) := goodIn_app (goodIn_of _ (by decide +kernel)) ggX5_write_X5_writeOpcode
set_option maxRecDepth 20000 in
theorem ggX5_write_X4_hasForm : GoodIn wsX5_write wsX4_hasForm := goodIn_r _ [77, 78, 31, 11, 32, 13, 14, 15, 16, 79, 80, 81] rfl (by decide +kernel)
set_option maxRecDepth 20000 in
theorem gX5_write_X4_hasForm : GoodIn wsX5_write (va_wsS RX5 99 yX4_hasForm wsX4_hasForm) := goodIn_app (goodIn_of _ (by decide +kernel)) ggX5_write_X4_hasForm
set_option maxRecDepth 20000 in
theorem ggX5_write_X5_writeForm : GoodIn wsX5_write wsX5_writeForm := goodIn_r _ [85, 2, 1, 86, 87, 11, 88, 13, 14, 15, 16, 30, 31, 32, 54, 55, 56, 40, 57, 58, 89, 80, 81, 37, 38, 39, 41, 42, 90, 91, 92, 25, 93, 94, 95, 96, 46, 97, 98, 49, 50, 51, 52, 53, 99, 100, 101, 102, 103, 104, 105, 106, 48, 17, 18, 19, 6, 20, 8, 21, 107, 108, 109, 110, 111, 112, 113, 114, 115, 116, 117, 118, 119, 120, 121, 122, 129, 130, 131, 132, 133, 134, 135, 136, 137, 140, 141, 142, 143, 138, 139] rfl (by decide +kernel)
set_option maxRecDepth 20000 in
theorem gX5_write_X5_writeForm : GoodIn wsX5_write (wsV RX5 102 RX5 yX5_writeForm wsX5_writeForm) := goodIn_app (goodIn_of _ (by decide +kernel)) ggX5_write_X5_writeForm
set_option maxRecDepth 20000 in
theorem ggX5_write_X4_numberOf : GoodIn wsX5_write wsX4_numberOf := goodIn_r _ [125, 13, 14, 11, 15, 16] rfl (by decide +kernel)
set_option maxRecDepth 20000 in
theorem gX5_write_X4_numberOf : GoodIn wsX5_write (va_wsS RX5 72 yX4_numberOf wsX4_numberOf) := goodIn_app (goodIn_of _ (by decide +kernel)) ggX5_write_X4_numberOf
set_option maxRecDepth 20000 in
theorem ggX5_write_X4_numberWidth : GoodIn wsX5_write wsX4_numberWidth := goodIn_r _ [128] rfl (by decide +kernel)
set_option maxRecDepth 20000 in
theorem gX5_write_X4_numberWidth : GoodIn wsX5_write (va_wsS RX5 105 yX4_numberWidth wsX4_numberWidth) := goodIn_app (goodIn_of _ (by decide +kernel)) ggX5_write_X4_numberWidth
set_option maxRecDepth 20000 in
theorem ggX5_write_X2_appendLowestFirst : GoodIn wsX5_write wsX2_appendLowestFirst := goodIn_r _ [121, 122, 18, 19, 6, 20, 8, 21, 138, 139] rfl (by decide +kernel)
set_option maxRecDepth 20000 in
theorem gX5_write_X2_appendLowestFirst : GoodIn wsX5_write (wsV RX5 108 RX2 yX2_appendLowestFirst wsX2_appendLowestFirst) := goodIn_app (goodIn_of _ (by decide +kernel)) ggX5_write_X2_appendLowestFirst
theorem dX5_write_0 : decode cX5_write 0 = .ok (.aload_n 0, 1) := by decide +kernel
theorem dX5_write_1 : decode cX5_write 1 = .ok (.getfield 21, 3) := by decide +kernel
theorem dX5_write_4 : decode cX5_write 4 = .ok (.invokevirtual 83, 3) := by decide +kernel
theorem dX5_write_7 : decode cX5_write 7 = .ok (.iload_n 1, 1) := by decide +kernel
theorem dX5_write_8 : decode cX5_write 8 = .ok (.invokestatic 86, 3) := by decide +kernel
theorem dX5_write_11 : decode cX5_write 11 = .ok (.ifCond .eq 13, 3) := by decide +kernel
theorem dX5_write_14 : decode cX5_write 14 = .ok (.aload_n 0, 1) := by decide +kernel
theorem dX5_write_15 : decode cX5_write 15 = .ok (.getfield 21, 3) := by decide +kernel
theorem dX5_write_18 : decode cX5_write 18 = .ok (.sipush 243, 3) := by decide +kernel
theorem dX5_write_21 : decode cX5_write 21 = .ok (.invokevirtual 89, 3) := by decide +kernel
theorem dX5_write_24 : decode cX5_write 24 = .ok (.aload_n 0, 1) := by decide +kernel
theorem dX5_write_25 : decode cX5_write 25 = .ok (.iload_n 1, 1) := by decide +kernel
theorem dX5_write_26 : decode cX5_write 26 = .ok (.invokevirtual 93, 3) := by decide +kernel
theorem dX5_write_29 : decode cX5_write 29 = .ok (.aload_n 0, 1) := by decide +kernel
theorem dX5_write_30 : decode cX5_write 30 = .ok (.iload_n 1, 1) := by decide +kernel
theorem dX5_write_31 : decode cX5_write 31 = .ok (.invokevirtual 96, 3) := by decide +kernel
theorem dX5_write_34 : decode cX5_write 34 = .ok (.iload_n 1, 1) := by decide +kernel
theorem dX5_write_35 : decode cX5_write 35 = .ok (.invokestatic 99, 3) := by decide +kernel
theorem dX5_write_38 : decode cX5_write 38 = .ok (.ifCond .eq 8, 3) := by decide +kernel
theorem dX5_write_41 : decode cX5_write 41 = .ok (.aload_n 0, 1) := by decide +kernel
theorem dX5_write_42 : decode cX5_write 42 = .ok (.iload_n 1, 1) := by decide +kernel
theorem dX5_write_43 : decode cX5_write 43 = .ok (.invokevirtual 102, 3) := by decide +kernel
theorem dX5_write_46 : decode cX5_write 46 = .ok (.iload_n 1, 1) := by decide +kernel
theorem dX5_write_47 : decode cX5_write 47 = .ok (.aload_n 0, 1) := by decide +kernel
theorem dX5_write_48 : decode cX5_write 48 = .ok (.getfield 12, 3) := by decide +kernel
theorem dX5_write_51 : decode cX5_write 51 = .ok (.getfield 35, 3) := by decide +kernel
theorem dX5_write_54 : decode cX5_write 54 = .ok (.invokestatic 72, 3) := by decide +kernel
theorem dX5_write_57 : decode cX5_write 57 = .ok (.istore_n 2, 1) := by decide +kernel
theorem dX5_write_58 : decode cX5_write 58 = .ok (.aload_n 0, 1) := by decide +kernel
theorem dX5_write_59 : decode cX5_write 59 = .ok (.getfield 21, 3) := by decide +kernel
theorem dX5_write_62 : decode cX5_write 62 = .ok (.aload_n 0, 1) := by decide +kernel
theorem dX5_write_63 : decode cX5_write 63 = .ok (.getfield 12, 3) := by decide +kernel
theorem dX5_write_66 : decode cX5_write 66 = .ok (.getfield 75, 3) := by decide +kernel
theorem dX5_write_69 : decode cX5_write 69 = .ok (.iload_n 2, 1) := by decide +kernel
theorem dX5_write_70 : decode cX5_write 70 = .ok (.invokestatic 105, 3) := by decide +kernel
theorem dX5_write_73 : decode cX5_write 73 = .ok (.invokevirtual 108, 3) := by decide +kernel
theorem dX5_write_76 : decode cX5_write 76 = .ok (.return_, 1) := by decide +kernel
set_option maxRecDepth 20000 in
theorem ggX5_writePrefix_X4_sizeNeedsW : GoodIn wsX5_writePrefix wsX4_sizeNeedsW := goodIn_r _ [6, 7, 8, 5, 9, 10] rfl (by decide +kernel)
set_option maxRecDepth 20000 in
theorem gX5_writePrefix_X4_sizeNeedsW : GoodIn wsX5_writePrefix (va_wsS RX5 112 yX4_sizeNeedsW wsX4_sizeNeedsW) := goodIn_app (goodIn_of _ (by decide +kernel)) ggX5_writePrefix_X4_sizeNeedsW
set_option maxRecDepth 20000 in
theorem ggX5_writePrefix_X4_roleOf : GoodIn wsX5_writePrefix wsX4_roleOf := goodIn_r _ [13, 7, 8, 5, 9, 10] rfl (by decide +kernel)
set_option maxRecDepth 20000 in
theorem gX5_writePrefix_X4_roleOf : GoodIn wsX5_writePrefix (va_wsS RX5 65 yX4_roleOf wsX4_roleOf) := goodIn_app (goodIn_of _ (by decide +kernel)) ggX5_writePrefix_X4_roleOf
set_option maxRecDepth 20000 in
theorem ggX5_writePrefix_X5_operandBits : GoodIn wsX5_writePrefix wsX5_operandBits := goodIn_r _ [18, 1, 19, 20, 21, 22, 23, 24, 25, 26, 27, 28, 29, 30, 31, 32, 33, 34, 35, 36, 37, 38, 39, 40, 51, 52, 53, 54, 55, 56, 57, 58, 59, 60, 61, 62, 63] rfl (by decide +kernel)
set_option maxRecDepth 20000 in
theorem gX5_writePrefix_X5_operandBits : GoodIn wsX5_writePrefix (wsV RX5 115 RX5 yX5_operandBits wsX5_operandBits) := goodIn_app (goodIn_of _ (by decide +kernel)) ggX5_writePrefix_X5_operandBits
set_option maxRecDepth 20000 in
theorem ggX5_writePrefix_X0_kindOf : GoodIn wsX5_writePrefix wsX0_kindOf := goodIn_r _ [23, 24, 53, 54, 55, 56, 57, 58, 59] rfl (by decide +kernel)
set_option maxRecDepth 20000 in
theorem gX5_writePrefix_X0_kindOf : GoodIn wsX5_writePrefix (wsV RX5 52 RX0 yX0_kindOf wsX0_kindOf) := goodIn_app (goodIn_of _ (by decide +kernel)) ggX5_writePrefix_X0_kindOf
set_option maxRecDepth 20000 in
theorem ggX5_writePrefix_X0_registerOf : GoodIn wsX5_writePrefix wsX0_registerOf := goodIn_r _ [39, 40, 53, 54, 55, 56, 57, 58, 59] rfl (by decide +kernel)
set_option maxRecDepth 20000 in
theorem gX5_writePrefix_X0_registerOf : GoodIn wsX5_writePrefix (wsV RX5 69 RX0 yX0_registerOf wsX0_registerOf) := goodIn_app (goodIn_of _ (by decide +kernel)) ggX5_writePrefix_X0_registerOf
set_option maxRecDepth 20000 in
theorem ggX5_writePrefix_X4_needsAnyPrefix : GoodIn wsX5_writePrefix wsX4_needsAnyPrefix := goodIn_r _ [43] rfl (by decide +kernel)
set_option maxRecDepth 20000 in
theorem gX5_writePrefix_X4_needsAnyPrefix : GoodIn wsX5_writePrefix (va_wsS RX5 118 yX4_needsAnyPrefix wsX4_needsAnyPrefix) := goodIn_app (goodIn_of _ (by decide +kernel)) ggX5_writePrefix_X4_needsAnyPrefix
set_option maxRecDepth 20000 in
theorem ggX5_writePrefix_X2_append : GoodIn wsX5_writePrefix wsX2_append := goodIn_r _ [48, 49, 50, 64, 65] rfl (by decide +kernel)
set_option maxRecDepth 20000 in
theorem gX5_writePrefix_X2_append : GoodIn wsX5_writePrefix (wsV RX5 89 RX2 yX2_append wsX2_append) := goodIn_app (goodIn_of _ (by decide +kernel)) ggX5_writePrefix_X2_append
theorem dX5_writePrefix_0 : decode cX5_writePrefix 0 = .ok (.iload_n 1, 1) := by decide +kernel
theorem dX5_writePrefix_1 : decode cX5_writePrefix 1 = .ok (.aload_n 0, 1) := by decide +kernel
theorem dX5_writePrefix_2 : decode cX5_writePrefix 2 = .ok (.getfield 12, 3) := by decide +kernel
theorem dX5_writePrefix_5 : decode cX5_writePrefix 5 = .ok (.getfield 35, 3) := by decide +kernel
theorem dX5_writePrefix_8 : decode cX5_writePrefix 8 = .ok (.invokestatic 112, 3) := by decide +kernel
theorem dX5_writePrefix_11 : decode cX5_writePrefix 11 = .ok (.ifCond .eq 8, 3) := by decide +kernel
theorem dX5_writePrefix_14 : decode cX5_writePrefix 14 = .ok (.bipush 8, 2) := by decide +kernel
theorem dX5_writePrefix_16 : decode cX5_writePrefix 16 = .ok (.goto 4, 3) := by decide +kernel
theorem dX5_writePrefix_19 : decode cX5_writePrefix 19 = .ok (.iconst 0, 1) := by decide +kernel
theorem dX5_writePrefix_20 : decode cX5_writePrefix 20 = .ok (.istore_n 2, 1) := by decide +kernel
theorem dX5_writePrefix_21 : decode cX5_writePrefix 21 = .ok (.iconst 0, 1) := by decide +kernel
theorem dX5_writePrefix_22 : decode cX5_writePrefix 22 = .ok (.istore_n 3, 1) := by decide +kernel
theorem dX5_writePrefix_23 : decode cX5_writePrefix 23 = .ok (.iconst 0, 1) := by decide +kernel
theorem dX5_writePrefix_24 : decode cX5_writePrefix 24 = .ok (.istore 4, 2) := by decide +kernel
theorem dX5_writePrefix_26 : decode cX5_writePrefix 26 = .ok (.iload 4, 2) := by decide +kernel
theorem dX5_writePrefix_28 : decode cX5_writePrefix 28 = .ok (.iconst 3, 1) := by decide +kernel
theorem dX5_writePrefix_29 : decode cX5_writePrefix 29 = .ok (.if_icmp .ge 67, 3) := by decide +kernel
theorem dX5_writePrefix_32 : decode cX5_writePrefix 32 = .ok (.iload_n 1, 1) := by decide +kernel
theorem dX5_writePrefix_33 : decode cX5_writePrefix 33 = .ok (.iload 4, 2) := by decide +kernel
theorem dX5_writePrefix_35 : decode cX5_writePrefix 35 = .ok (.invokestatic 65, 3) := by decide +kernel
theorem dX5_writePrefix_38 : decode cX5_writePrefix 38 = .ok (.istore 5, 2) := by decide +kernel
theorem dX5_writePrefix_40 : decode cX5_writePrefix 40 = .ok (.iload_n 2, 1) := by decide +kernel
theorem dX5_writePrefix_41 : decode cX5_writePrefix 41 = .ok (.aload_n 0, 1) := by decide +kernel
theorem dX5_writePrefix_42 : decode cX5_writePrefix 42 = .ok (.iload 5, 2) := by decide +kernel
theorem dX5_writePrefix_44 : decode cX5_writePrefix 44 = .ok (.iload 4, 2) := by decide +kernel
theorem dX5_writePrefix_46 : decode cX5_writePrefix 46 = .ok (.invokevirtual 115, 3) := by decide +kernel
theorem dX5_writePrefix_49 : decode cX5_writePrefix 49 = .ok (.ior, 1) := by decide +kernel
theorem dX5_writePrefix_50 : decode cX5_writePrefix 50 = .ok (.istore_n 2, 1) := by decide +kernel
theorem dX5_writePrefix_51 : decode cX5_writePrefix 51 = .ok (.aload_n 0, 1) := by decide +kernel
theorem dX5_writePrefix_52 : decode cX5_writePrefix 52 = .ok (.getfield 12, 3) := by decide +kernel
theorem dX5_writePrefix_55 : decode cX5_writePrefix 55 = .ok (.iload 4, 2) := by decide +kernel
theorem dX5_writePrefix_57 : decode cX5_writePrefix 57 = .ok (.invokevirtual 52, 3) := by decide +kernel
theorem dX5_writePrefix_60 : decode cX5_writePrefix 60 = .ok (.iconst 1, 1) := by decide +kernel
theorem dX5_writePrefix_61 : decode cX5_writePrefix 61 = .ok (.if_icmp .ne 29, 3) := by decide +kernel
theorem dX5_writePrefix_64 : decode cX5_writePrefix 64 = .ok (.iload 5, 2) := by decide +kernel
theorem dX5_writePrefix_66 : decode cX5_writePrefix 66 = .ok (.aload_n 0, 1) := by decide +kernel
theorem dX5_writePrefix_67 : decode cX5_writePrefix 67 = .ok (.getfield 12, 3) := by decide +kernel
theorem dX5_writePrefix_70 : decode cX5_writePrefix 70 = .ok (.getfield 35, 3) := by decide +kernel
theorem dX5_writePrefix_73 : decode cX5_writePrefix 73 = .ok (.aload_n 0, 1) := by decide +kernel
theorem dX5_writePrefix_74 : decode cX5_writePrefix 74 = .ok (.getfield 12, 3) := by decide +kernel
theorem dX5_writePrefix_77 : decode cX5_writePrefix 77 = .ok (.iload 4, 2) := by decide +kernel
theorem dX5_writePrefix_79 : decode cX5_writePrefix 79 = .ok (.invokevirtual 69, 3) := by decide +kernel
theorem dX5_writePrefix_82 : decode cX5_writePrefix 82 = .ok (.invokestatic 118, 3) := by decide +kernel
theorem dX5_writePrefix_85 : decode cX5_writePrefix 85 = .ok (.ifCond .eq 5, 3) := by decide +kernel
theorem dX5_writePrefix_88 : decode cX5_writePrefix 88 = .ok (.iconst 1, 1) := by decide +kernel
theorem dX5_writePrefix_89 : decode cX5_writePrefix 89 = .ok (.istore_n 3, 1) := by decide +kernel
theorem dX5_writePrefix_90 : decode cX5_writePrefix 90 = .ok (.iinc 4 1, 3) := by decide +kernel
theorem dX5_writePrefix_93 : decode cX5_writePrefix 93 = .ok (.goto (-67), 3) := by decide +kernel
theorem dX5_writePrefix_96 : decode cX5_writePrefix 96 = .ok (.iload_n 3, 1) := by decide +kernel
theorem dX5_writePrefix_97 : decode cX5_writePrefix 97 = .ok (.ifCond .ne 7, 3) := by decide +kernel
theorem dX5_writePrefix_100 : decode cX5_writePrefix 100 = .ok (.iload_n 2, 1) := by decide +kernel
theorem dX5_writePrefix_101 : decode cX5_writePrefix 101 = .ok (.ifCond .eq 14, 3) := by decide +kernel
theorem dX5_writePrefix_104 : decode cX5_writePrefix 104 = .ok (.aload_n 0, 1) := by decide +kernel
theorem dX5_writePrefix_105 : decode cX5_writePrefix 105 = .ok (.getfield 21, 3) := by decide +kernel
theorem dX5_writePrefix_108 : decode cX5_writePrefix 108 = .ok (.bipush 64, 2) := by decide +kernel
theorem dX5_writePrefix_110 : decode cX5_writePrefix 110 = .ok (.iload_n 2, 1) := by decide +kernel
theorem dX5_writePrefix_111 : decode cX5_writePrefix 111 = .ok (.iadd, 1) := by decide +kernel
theorem dX5_writePrefix_112 : decode cX5_writePrefix 112 = .ok (.invokevirtual 89, 3) := by decide +kernel
theorem dX5_writePrefix_115 : decode cX5_writePrefix 115 = .ok (.return_, 1) := by decide +kernel
set_option maxRecDepth 20000 in
theorem ggX5_operandBits_X0_kindOf : GoodIn wsX5_operandBits wsX0_kindOf := goodIn_r _ [6, 7, 26, 27, 28, 29, 30, 31, 32] rfl (by decide +kernel)
set_option maxRecDepth 20000 in
theorem gX5_operandBits_X0_kindOf : GoodIn wsX5_operandBits (wsV RX5 52 RX0 yX0_kindOf wsX0_kindOf) := goodIn_app (goodIn_of _ (by decide +kernel)) ggX5_operandBits_X0_kindOf
set_option maxRecDepth 20000 in
theorem ggX5_operandBits_X1_prefixBits : GoodIn wsX5_operandBits wsX1_prefixBits := goodIn_r _ [12, 13, 14, 15, 16, 17, 11, 18, 33, 34, 35, 36] rfl (by decide +kernel)
set_option maxRecDepth 20000 in
theorem gX5_operandBits_X1_prefixBits : GoodIn wsX5_operandBits (wsV RX5 122 RX1 yX1_prefixBits wsX1_prefixBits) := goodIn_app (goodIn_of _ (by decide +kernel)) ggX5_operandBits_X1_prefixBits
set_option maxRecDepth 20000 in
theorem ggX5_operandBits_X0_registerOf : GoodIn wsX5_operandBits wsX0_registerOf := goodIn_r _ [22, 23, 26, 27, 28, 29, 30, 31, 32] rfl (by decide +kernel)
set_option maxRecDepth 20000 in
theorem gX5_operandBits_X0_registerOf : GoodIn wsX5_operandBits (wsV RX5 69 RX0 yX0_registerOf wsX0_registerOf) := goodIn_app (goodIn_of _ (by decide +kernel)) ggX5_operandBits_X0_registerOf
theorem dX5_operandBits_0 : decode cX5_operandBits 0 = .ok (.aload_n 0, 1) := by decide +kernel
theorem dX5_operandBits_1 : decode cX5_operandBits 1 = .ok (.getfield 12, 3) := by decide +kernel
theorem dX5_operandBits_4 : decode cX5_operandBits 4 = .ok (.iload_n 2, 1) := by decide +kernel
theorem dX5_operandBits_5 : decode cX5_operandBits 5 = .ok (.invokevirtual 52, 3) := by decide +kernel
theorem dX5_operandBits_8 : decode cX5_operandBits 8 = .ok (.iconst 2, 1) := by decide +kernel
theorem dX5_operandBits_9 : decode cX5_operandBits 9 = .ok (.if_icmp .ne 14, 3) := by decide +kernel
theorem dX5_operandBits_12 : decode cX5_operandBits 12 = .ok (.aload_n 0, 1) := by decide +kernel
theorem dX5_operandBits_13 : decode cX5_operandBits 13 = .ok (.getfield 12, 3) := by decide +kernel
theorem dX5_operandBits_16 : decode cX5_operandBits 16 = .ok (.getfield 55, 3) := by decide +kernel
theorem dX5_operandBits_19 : decode cX5_operandBits 19 = .ok (.invokevirtual 122, 3) := by decide +kernel
theorem dX5_operandBits_22 : decode cX5_operandBits 22 = .ok (.ireturn, 1) := by decide +kernel
theorem dX5_operandBits_23 : decode cX5_operandBits 23 = .ok (.aload_n 0, 1) := by decide +kernel
theorem dX5_operandBits_24 : decode cX5_operandBits 24 = .ok (.getfield 12, 3) := by decide +kernel
theorem dX5_operandBits_27 : decode cX5_operandBits 27 = .ok (.iload_n 2, 1) := by decide +kernel
theorem dX5_operandBits_28 : decode cX5_operandBits 28 = .ok (.invokevirtual 69, 3) := by decide +kernel
theorem dX5_operandBits_31 : decode cX5_operandBits 31 = .ok (.bipush 8, 2) := by decide +kernel
theorem dX5_operandBits_33 : decode cX5_operandBits 33 = .ok (.if_icmp .ge 5, 3) := by decide +kernel
theorem dX5_operandBits_36 : decode cX5_operandBits 36 = .ok (.iconst 0, 1) := by decide +kernel
theorem dX5_operandBits_37 : decode cX5_operandBits 37 = .ok (.ireturn, 1) := by decide +kernel
theorem dX5_operandBits_38 : decode cX5_operandBits 38 = .ok (.iload_n 1, 1) := by decide +kernel
theorem dX5_operandBits_39 : decode cX5_operandBits 39 = .ok (.iconst 1, 1) := by decide +kernel
theorem dX5_operandBits_40 : decode cX5_operandBits 40 = .ok (.if_icmp .ne 7, 3) := by decide +kernel
theorem dX5_operandBits_43 : decode cX5_operandBits 43 = .ok (.iconst 4, 1) := by decide +kernel
theorem dX5_operandBits_44 : decode cX5_operandBits 44 = .ok (.goto 4, 3) := by decide +kernel
theorem dX5_operandBits_47 : decode cX5_operandBits 47 = .ok (.iconst 1, 1) := by decide +kernel
theorem dX5_operandBits_48 : decode cX5_operandBits 48 = .ok (.ireturn, 1) := by decide +kernel
set_option maxRecDepth 20000 in
theorem ggX5_writeOpcode_X4_opcodeOf : GoodIn wsX5_writeOpcode wsX4_opcodeOf := goodIn_r _ [6, 7, 8, 5, 9, 10] rfl (by decide +kernel)
set_option maxRecDepth 20000 in
theorem gX5_writeOpcode_X4_opcodeOf : GoodIn wsX5_writeOpcode (va_wsS RX5 126 yX4_opcodeOf wsX4_opcodeOf) := goodIn_app (goodIn_of _ (by decide +kernel)) ggX5_writeOpcode_X4_opcodeOf
set_option maxRecDepth 20000 in
theorem ggX5_writeOpcode_X4_hasCondition : GoodIn wsX5_writeOpcode wsX4_hasCondition := goodIn_r _ [13, 7, 8, 5, 9, 10] rfl (by decide +kernel)
set_option maxRecDepth 20000 in
theorem gX5_writeOpcode_X4_hasCondition : GoodIn wsX5_writeOpcode (va_wsS RX5 42 yX4_hasCondition wsX4_hasCondition) := goodIn_app (goodIn_of _ (by decide +kernel)) ggX5_writeOpcode_X4_hasCondition
set_option maxRecDepth 20000 in
theorem ggX5_writeOpcode_X4_hasSizeBit : GoodIn wsX5_writeOpcode wsX4_hasSizeBit := goodIn_r _ [16, 7, 8, 5, 9, 10] rfl (by decide +kernel)
set_option maxRecDepth 20000 in
theorem gX5_writeOpcode_X4_hasSizeBit : GoodIn wsX5_writeOpcode (va_wsS RX5 129 yX4_hasSizeBit wsX4_hasSizeBit) := goodIn_app (goodIn_of _ (by decide +kernel)) ggX5_writeOpcode_X4_hasSizeBit
set_option maxRecDepth 20000 in
theorem ggX5_writeOpcode_X4_roleOf : GoodIn wsX5_writeOpcode wsX4_roleOf := goodIn_r _ [19, 7, 8, 5, 9, 10] rfl (by decide +kernel)
set_option maxRecDepth 20000 in
theorem gX5_writeOpcode_X4_roleOf : GoodIn wsX5_writeOpcode (va_wsS RX5 65 yX4_roleOf wsX4_roleOf) := goodIn_app (goodIn_of _ (by decide +kernel)) ggX5_writeOpcode_X4_roleOf
set_option maxRecDepth 20000 in
theorem ggX5_writeOpcode_X0_registerOf : GoodIn wsX5_writeOpcode wsX0_registerOf := goodIn_r _ [24, 25, 35, 36, 37, 38, 39, 40, 41] rfl (by decide +kernel)
set_option maxRecDepth 20000 in
theorem gX5_writeOpcode_X0_registerOf : GoodIn wsX5_writeOpcode (wsV RX5 69 RX0 yX0_registerOf wsX0_registerOf) := goodIn_app (goodIn_of _ (by decide +kernel)) ggX5_writeOpcode_X0_registerOf
set_option maxRecDepth 20000 in
theorem ggX5_writeOpcode_X2_append : GoodIn wsX5_writeOpcode wsX2_append := goodIn_r _ [30, 31, 32, 42, 43] rfl (by decide +kernel)
set_option maxRecDepth 20000 in
theorem gX5_writeOpcode_X2_append : GoodIn wsX5_writeOpcode (wsV RX5 89 RX2 yX2_append wsX2_append) := goodIn_app (goodIn_of _ (by decide +kernel)) ggX5_writeOpcode_X2_append
theorem dX5_writeOpcode_0 : decode cX5_writeOpcode 0 = .ok (.iload_n 1, 1) := by decide +kernel
theorem dX5_writeOpcode_1 : decode cX5_writeOpcode 1 = .ok (.invokestatic 126, 3) := by decide +kernel
theorem dX5_writeOpcode_4 : decode cX5_writeOpcode 4 = .ok (.istore_n 2, 1) := by decide +kernel
theorem dX5_writeOpcode_5 : decode cX5_writeOpcode 5 = .ok (.iload_n 1, 1) := by decide +kernel
theorem dX5_writeOpcode_6 : decode cX5_writeOpcode 6 = .ok (.invokestatic 42, 3) := by decide +kernel
theorem dX5_writeOpcode_9 : decode cX5_writeOpcode 9 = .ok (.ifCond .eq 16, 3) := by decide +kernel
theorem dX5_writeOpcode_12 : decode cX5_writeOpcode 12 = .ok (.iload_n 2, 1) := by decide +kernel
theorem dX5_writeOpcode_13 : decode cX5_writeOpcode 13 = .ok (.aload_n 0, 1) := by decide +kernel
theorem dX5_writeOpcode_14 : decode cX5_writeOpcode 14 = .ok (.getfield 12, 3) := by decide +kernel
theorem dX5_writeOpcode_17 : decode cX5_writeOpcode 17 = .ok (.getfield 46, 3) := by decide +kernel
theorem dX5_writeOpcode_20 : decode cX5_writeOpcode 20 = .ok (.iadd, 1) := by decide +kernel
theorem dX5_writeOpcode_21 : decode cX5_writeOpcode 21 = .ok (.istore_n 2, 1) := by decide +kernel
theorem dX5_writeOpcode_22 : decode cX5_writeOpcode 22 = .ok (.goto 55, 3) := by decide +kernel
theorem dX5_writeOpcode_25 : decode cX5_writeOpcode 25 = .ok (.iload_n 1, 1) := by decide +kernel
theorem dX5_writeOpcode_26 : decode cX5_writeOpcode 26 = .ok (.invokestatic 129, 3) := by decide +kernel
theorem dX5_writeOpcode_29 : decode cX5_writeOpcode 29 = .ok (.ifCond .eq 25, 3) := by decide +kernel
theorem dX5_writeOpcode_32 : decode cX5_writeOpcode 32 = .ok (.iload_n 2, 1) := by decide +kernel
theorem dX5_writeOpcode_33 : decode cX5_writeOpcode 33 = .ok (.aload_n 0, 1) := by decide +kernel
theorem dX5_writeOpcode_34 : decode cX5_writeOpcode 34 = .ok (.getfield 12, 3) := by decide +kernel
theorem dX5_writeOpcode_37 : decode cX5_writeOpcode 37 = .ok (.getfield 35, 3) := by decide +kernel
theorem dX5_writeOpcode_40 : decode cX5_writeOpcode 40 = .ok (.iconst 1, 1) := by decide +kernel
theorem dX5_writeOpcode_41 : decode cX5_writeOpcode 41 = .ok (.if_icmp .ne 7, 3) := by decide +kernel
theorem dX5_writeOpcode_44 : decode cX5_writeOpcode 44 = .ok (.iconst 0, 1) := by decide +kernel
theorem dX5_writeOpcode_45 : decode cX5_writeOpcode 45 = .ok (.goto 4, 3) := by decide +kernel
theorem dX5_writeOpcode_48 : decode cX5_writeOpcode 48 = .ok (.iconst 1, 1) := by decide +kernel
theorem dX5_writeOpcode_49 : decode cX5_writeOpcode 49 = .ok (.iadd, 1) := by decide +kernel
theorem dX5_writeOpcode_50 : decode cX5_writeOpcode 50 = .ok (.istore_n 2, 1) := by decide +kernel
theorem dX5_writeOpcode_51 : decode cX5_writeOpcode 51 = .ok (.goto 26, 3) := by decide +kernel
theorem dX5_writeOpcode_54 : decode cX5_writeOpcode 54 = .ok (.iload_n 1, 1) := by decide +kernel
theorem dX5_writeOpcode_55 : decode cX5_writeOpcode 55 = .ok (.iconst 0, 1) := by decide +kernel
theorem dX5_writeOpcode_56 : decode cX5_writeOpcode 56 = .ok (.invokestatic 65, 3) := by decide +kernel
theorem dX5_writeOpcode_59 : decode cX5_writeOpcode 59 = .ok (.iconst 5, 1) := by decide +kernel
theorem dX5_writeOpcode_60 : decode cX5_writeOpcode 60 = .ok (.if_icmp .ne 17, 3) := by decide +kernel
theorem dX5_writeOpcode_63 : decode cX5_writeOpcode 63 = .ok (.iload_n 2, 1) := by decide +kernel
theorem dX5_writeOpcode_64 : decode cX5_writeOpcode 64 = .ok (.aload_n 0, 1) := by decide +kernel
theorem dX5_writeOpcode_65 : decode cX5_writeOpcode 65 = .ok (.getfield 12, 3) := by decide +kernel
theorem dX5_writeOpcode_68 : decode cX5_writeOpcode 68 = .ok (.iconst 0, 1) := by decide +kernel
theorem dX5_writeOpcode_69 : decode cX5_writeOpcode 69 = .ok (.invokevirtual 69, 3) := by decide +kernel
theorem dX5_writeOpcode_72 : decode cX5_writeOpcode 72 = .ok (.bipush 7, 2) := by decide +kernel
theorem dX5_writeOpcode_74 : decode cX5_writeOpcode 74 = .ok (.iand, 1) := by decide +kernel
theorem dX5_writeOpcode_75 : decode cX5_writeOpcode 75 = .ok (.iadd, 1) := by decide +kernel
theorem dX5_writeOpcode_76 : decode cX5_writeOpcode 76 = .ok (.istore_n 2, 1) := by decide +kernel
theorem dX5_writeOpcode_77 : decode cX5_writeOpcode 77 = .ok (.iload_n 2, 1) := by decide +kernel
theorem dX5_writeOpcode_78 : decode cX5_writeOpcode 78 = .ok (.sipush 255, 3) := by decide +kernel
theorem dX5_writeOpcode_81 : decode cX5_writeOpcode 81 = .ok (.if_icmp .le 14, 3) := by decide +kernel
theorem dX5_writeOpcode_84 : decode cX5_writeOpcode 84 = .ok (.aload_n 0, 1) := by decide +kernel
theorem dX5_writeOpcode_85 : decode cX5_writeOpcode 85 = .ok (.getfield 21, 3) := by decide +kernel
theorem dX5_writeOpcode_88 : decode cX5_writeOpcode 88 = .ok (.iload_n 2, 1) := by decide +kernel
theorem dX5_writeOpcode_89 : decode cX5_writeOpcode 89 = .ok (.bipush 8, 2) := by decide +kernel
theorem dX5_writeOpcode_91 : decode cX5_writeOpcode 91 = .ok (.ishr, 1) := by decide +kernel
theorem dX5_writeOpcode_92 : decode cX5_writeOpcode 92 = .ok (.invokevirtual 89, 3) := by decide +kernel
theorem dX5_writeOpcode_95 : decode cX5_writeOpcode 95 = .ok (.aload_n 0, 1) := by decide +kernel
theorem dX5_writeOpcode_96 : decode cX5_writeOpcode 96 = .ok (.getfield 21, 3) := by decide +kernel
theorem dX5_writeOpcode_99 : decode cX5_writeOpcode 99 = .ok (.iload_n 2, 1) := by decide +kernel
theorem dX5_writeOpcode_100 : decode cX5_writeOpcode 100 = .ok (.invokevirtual 89, 3) := by decide +kernel
theorem dX5_writeOpcode_103 : decode cX5_writeOpcode 103 = .ok (.return_, 1) := by decide +kernel
set_option maxRecDepth 20000 in
theorem ggX5_writeForm_X4_digitOf : GoodIn wsX5_writeForm wsX4_digitOf := goodIn_r _ [6, 7, 8, 5, 9, 10] rfl (by decide +kernel)
set_option maxRecDepth 20000 in
theorem gX5_writeForm_X4_digitOf : GoodIn wsX5_writeForm (va_wsS RX5 132 yX4_digitOf wsX4_digitOf) := goodIn_app (goodIn_of _ (by decide +kernel)) ggX5_writeForm_X4_digitOf
set_option maxRecDepth 20000 in
theorem ggX5_writeForm_X4_roleOf : GoodIn wsX5_writeForm wsX4_roleOf := goodIn_r _ [13, 7, 8, 5, 9, 10] rfl (by decide +kernel)
set_option maxRecDepth 20000 in
theorem gX5_writeForm_X4_roleOf : GoodIn wsX5_writeForm (va_wsS RX5 65 yX4_roleOf wsX4_roleOf) := goodIn_app (goodIn_of _ (by decide +kernel)) ggX5_writeForm_X4_roleOf
set_option maxRecDepth 20000 in
theorem ggX5_writeForm_X0_registerOf : GoodIn wsX5_writeForm wsX0_registerOf := goodIn_r _ [18, 19, 78, 79, 80, 81, 82, 83, 84] rfl (by decide +kernel)
set_option maxRecDepth 20000 in
theorem gX5_writeForm_X0_registerOf : GoodIn wsX5_writeForm (wsV RX5 69 RX0 yX0_registerOf wsX0_registerOf) := goodIn_app (goodIn_of _ (by decide +kernel)) ggX5_writeForm_X0_registerOf
set_option maxRecDepth 20000 in
theorem ggX5_writeForm_X4_isFormRole : GoodIn wsX5_writeForm wsX4_isFormRole := goodIn_r _ [22] rfl (by decide +kernel)
set_option maxRecDepth 20000 in
theorem gX5_writeForm_X4_isFormRole : GoodIn wsX5_writeForm (va_wsS RX5 135 yX4_isFormRole wsX4_isFormRole) := goodIn_app (goodIn_of _ (by decide +kernel)) ggX5_writeForm_X4_isFormRole
set_option maxRecDepth 20000 in
theorem ggX5_writeForm_X0_kindOf : GoodIn wsX5_writeForm wsX0_kindOf := goodIn_r _ [26, 27, 78, 79, 80, 81, 82, 83, 84] rfl (by decide +kernel)
set_option maxRecDepth 20000 in
theorem gX5_writeForm_X0_kindOf : GoodIn wsX5_writeForm (wsV RX5 52 RX0 yX0_kindOf wsX0_kindOf) := goodIn_app (goodIn_of _ (by decide +kernel)) ggX5_writeForm_X0_kindOf
set_option maxRecDepth 20000 in
theorem ggX5_writeForm_X5_writeMemory : GoodIn wsX5_writeForm wsX5_writeMemory := goodIn_r _ [32, 1, 2, 33, 34, 35, 36, 37, 38, 39, 40, 41, 42, 43, 44, 45, 46, 47, 48, 49, 50, 51, 52, 53, 54, 55, 56, 57, 58, 59, 60, 61, 62, 63, 64, 65, 66, 67, 68, 69, 70, 71, 72, 73, 74, 75, 76, 77, 78, 79, 80, 81, 82, 83, 84, 85, 86, 87, 88, 89, 90] rfl (by decide +kernel)
set_option maxRecDepth 20000 in
theorem gX5_writeForm_X5_writeMemory : GoodIn wsX5_writeForm (wsV RX5 138 RX5 yX5_writeMemory wsX5_writeMemory) := goodIn_app (goodIn_of _ (by decide +kernel)) ggX5_writeForm_X5_writeMemory
set_option maxRecDepth 20000 in
theorem ggX5_writeForm_X2_append : GoodIn wsX5_writeForm wsX2_append := goodIn_r _ [57, 58, 59, 89, 90] rfl (by decide +kernel)
set_option maxRecDepth 20000 in
theorem gX5_writeForm_X2_append : GoodIn wsX5_writeForm (wsV RX5 89 RX2 yX2_append wsX2_append) := goodIn_app (goodIn_of _ (by decide +kernel)) ggX5_writeForm_X2_append
theorem dX5_writeForm_0 : decode cX5_writeForm 0 = .ok (.iload_n 1, 1) := by decide +kernel
theorem dX5_writeForm_1 : decode cX5_writeForm 1 = .ok (.invokestatic 132, 3) := by decide +kernel
theorem dX5_writeForm_4 : decode cX5_writeForm 4 = .ok (.istore_n 2, 1) := by decide +kernel
theorem dX5_writeForm_5 : decode cX5_writeForm 5 = .ok (.iload_n 2, 1) := by decide +kernel
theorem dX5_writeForm_6 : decode cX5_writeForm 6 = .ok (.ifCond .lt 13, 3) := by decide +kernel
theorem dX5_writeForm_9 : decode cX5_writeForm 9 = .ok (.iload_n 2, 1) := by decide +kernel
theorem dX5_writeForm_10 : decode cX5_writeForm 10 = .ok (.bipush 8, 2) := by decide +kernel
theorem dX5_writeForm_12 : decode cX5_writeForm 12 = .ok (.if_icmp .ge 7, 3) := by decide +kernel
theorem dX5_writeForm_15 : decode cX5_writeForm 15 = .ok (.iload_n 2, 1) := by decide +kernel
theorem dX5_writeForm_16 : decode cX5_writeForm 16 = .ok (.goto 4, 3) := by decide +kernel
theorem dX5_writeForm_19 : decode cX5_writeForm 19 = .ok (.iconst 0, 1) := by decide +kernel
theorem dX5_writeForm_20 : decode cX5_writeForm 20 = .ok (.istore_n 3, 1) := by decide +kernel
theorem dX5_writeForm_21 : decode cX5_writeForm 21 = .ok (.iconst 0, 1) := by decide +kernel
theorem dX5_writeForm_22 : decode cX5_writeForm 22 = .ok (.istore 4, 2) := by decide +kernel
theorem dX5_writeForm_24 : decode cX5_writeForm 24 = .ok (.iconst 0, 1) := by decide +kernel
theorem dX5_writeForm_25 : decode cX5_writeForm 25 = .ok (.istore 5, 2) := by decide +kernel
theorem dX5_writeForm_27 : decode cX5_writeForm 27 = .ok (.iload 5, 2) := by decide +kernel
theorem dX5_writeForm_29 : decode cX5_writeForm 29 = .ok (.iconst 3, 1) := by decide +kernel
theorem dX5_writeForm_30 : decode cX5_writeForm 30 = .ok (.if_icmp .ge 51, 3) := by decide +kernel
theorem dX5_writeForm_33 : decode cX5_writeForm 33 = .ok (.iload_n 1, 1) := by decide +kernel
theorem dX5_writeForm_34 : decode cX5_writeForm 34 = .ok (.iload 5, 2) := by decide +kernel
theorem dX5_writeForm_36 : decode cX5_writeForm 36 = .ok (.invokestatic 65, 3) := by decide +kernel
theorem dX5_writeForm_39 : decode cX5_writeForm 39 = .ok (.istore 6, 2) := by decide +kernel
theorem dX5_writeForm_41 : decode cX5_writeForm 41 = .ok (.iload 6, 2) := by decide +kernel
theorem dX5_writeForm_43 : decode cX5_writeForm 43 = .ok (.iconst 1, 1) := by decide +kernel
theorem dX5_writeForm_44 : decode cX5_writeForm 44 = .ok (.if_icmp .ne 19, 3) := by decide +kernel
theorem dX5_writeForm_47 : decode cX5_writeForm 47 = .ok (.aload_n 0, 1) := by decide +kernel
theorem dX5_writeForm_48 : decode cX5_writeForm 48 = .ok (.getfield 12, 3) := by decide +kernel
theorem dX5_writeForm_51 : decode cX5_writeForm 51 = .ok (.iload 5, 2) := by decide +kernel
theorem dX5_writeForm_53 : decode cX5_writeForm 53 = .ok (.invokevirtual 69, 3) := by decide +kernel
theorem dX5_writeForm_56 : decode cX5_writeForm 56 = .ok (.bipush 7, 2) := by decide +kernel
theorem dX5_writeForm_58 : decode cX5_writeForm 58 = .ok (.iand, 1) := by decide +kernel
theorem dX5_writeForm_59 : decode cX5_writeForm 59 = .ok (.istore_n 3, 1) := by decide +kernel
theorem dX5_writeForm_60 : decode cX5_writeForm 60 = .ok (.goto 15, 3) := by decide +kernel
theorem dX5_writeForm_63 : decode cX5_writeForm 63 = .ok (.iload 6, 2) := by decide +kernel
theorem dX5_writeForm_65 : decode cX5_writeForm 65 = .ok (.invokestatic 135, 3) := by decide +kernel
theorem dX5_writeForm_68 : decode cX5_writeForm 68 = .ok (.ifCond .eq 7, 3) := by decide +kernel
theorem dX5_writeForm_71 : decode cX5_writeForm 71 = .ok (.iload 5, 2) := by decide +kernel
theorem dX5_writeForm_73 : decode cX5_writeForm 73 = .ok (.istore 4, 2) := by decide +kernel
theorem dX5_writeForm_75 : decode cX5_writeForm 75 = .ok (.iinc 5 1, 3) := by decide +kernel
theorem dX5_writeForm_78 : decode cX5_writeForm 78 = .ok (.goto (-51), 3) := by decide +kernel
theorem dX5_writeForm_81 : decode cX5_writeForm 81 = .ok (.aload_n 0, 1) := by decide +kernel
theorem dX5_writeForm_82 : decode cX5_writeForm 82 = .ok (.getfield 12, 3) := by decide +kernel
theorem dX5_writeForm_85 : decode cX5_writeForm 85 = .ok (.iload 4, 2) := by decide +kernel
theorem dX5_writeForm_87 : decode cX5_writeForm 87 = .ok (.invokevirtual 52, 3) := by decide +kernel
theorem dX5_writeForm_90 : decode cX5_writeForm 90 = .ok (.iconst 2, 1) := by decide +kernel
theorem dX5_writeForm_91 : decode cX5_writeForm 91 = .ok (.if_icmp .ne 11, 3) := by decide +kernel
theorem dX5_writeForm_94 : decode cX5_writeForm 94 = .ok (.aload_n 0, 1) := by decide +kernel
theorem dX5_writeForm_95 : decode cX5_writeForm 95 = .ok (.iload_n 3, 1) := by decide +kernel
theorem dX5_writeForm_96 : decode cX5_writeForm 96 = .ok (.invokevirtual 138, 3) := by decide +kernel
theorem dX5_writeForm_99 : decode cX5_writeForm 99 = .ok (.goto 31, 3) := by decide +kernel
theorem dX5_writeForm_102 : decode cX5_writeForm 102 = .ok (.aload_n 0, 1) := by decide +kernel
theorem dX5_writeForm_103 : decode cX5_writeForm 103 = .ok (.getfield 21, 3) := by decide +kernel
theorem dX5_writeForm_106 : decode cX5_writeForm 106 = .ok (.sipush 192, 3) := by decide +kernel
theorem dX5_writeForm_109 : decode cX5_writeForm 109 = .ok (.bipush 8, 2) := by decide +kernel
theorem dX5_writeForm_111 : decode cX5_writeForm 111 = .ok (.iload_n 3, 1) := by decide +kernel
theorem dX5_writeForm_112 : decode cX5_writeForm 112 = .ok (.imul, 1) := by decide +kernel
theorem dX5_writeForm_113 : decode cX5_writeForm 113 = .ok (.iadd, 1) := by decide +kernel
theorem dX5_writeForm_114 : decode cX5_writeForm 114 = .ok (.aload_n 0, 1) := by decide +kernel
theorem dX5_writeForm_115 : decode cX5_writeForm 115 = .ok (.getfield 12, 3) := by decide +kernel
theorem dX5_writeForm_118 : decode cX5_writeForm 118 = .ok (.iload 4, 2) := by decide +kernel
theorem dX5_writeForm_120 : decode cX5_writeForm 120 = .ok (.invokevirtual 69, 3) := by decide +kernel
theorem dX5_writeForm_123 : decode cX5_writeForm 123 = .ok (.bipush 7, 2) := by decide +kernel
theorem dX5_writeForm_125 : decode cX5_writeForm 125 = .ok (.iand, 1) := by decide +kernel
theorem dX5_writeForm_126 : decode cX5_writeForm 126 = .ok (.iadd, 1) := by decide +kernel
theorem dX5_writeForm_127 : decode cX5_writeForm 127 = .ok (.invokevirtual 89, 3) := by decide +kernel
theorem dX5_writeForm_130 : decode cX5_writeForm 130 = .ok (.return_, 1) := by decide +kernel
set_option maxRecDepth 20000 in
theorem ggX5_writeMemory_X1_mod : GoodIn wsX5_writeMemory wsX1_mod := goodIn_r _ [7, 8, 9, 10, 11, 12, 6, 13, 55, 56, 57, 58] rfl (by decide +kernel)
set_option maxRecDepth 20000 in
theorem gX5_writeMemory_X1_mod : GoodIn wsX5_writeMemory (wsV RX5 141 RX1 yX1_mod wsX1_mod) := goodIn_app (goodIn_of _ (by decide +kernel)) ggX5_writeMemory_X1_mod
set_option maxRecDepth 20000 in
theorem ggX5_writeMemory_X1_formLow : GoodIn wsX5_writeMemory wsX1_formLow := goodIn_r _ [17, 9, 18, 19, 20, 6, 21, 22, 10, 11, 12, 13, 55, 56, 57, 58] rfl (by decide +kernel)
set_option maxRecDepth 20000 in
theorem gX5_writeMemory_X1_formLow : GoodIn wsX5_writeMemory (wsV RX5 144 RX1 yX1_formLow wsX1_formLow) := goodIn_app (goodIn_of _ (by decide +kernel)) ggX5_writeMemory_X1_formLow
set_option maxRecDepth 20000 in
theorem ggX5_writeMemory_X2_append : GoodIn wsX5_writeMemory wsX2_append := goodIn_r _ [27, 28, 29, 59, 60] rfl (by decide +kernel)
set_option maxRecDepth 20000 in
theorem gX5_writeMemory_X2_append : GoodIn wsX5_writeMemory (wsV RX5 89 RX2 yX2_append wsX2_append) := goodIn_app (goodIn_of _ (by decide +kernel)) ggX5_writeMemory_X2_append
set_option maxRecDepth 20000 in
theorem ggX5_writeMemory_X1_needsIndexByte : GoodIn wsX5_writeMemory wsX1_needsIndexByte := goodIn_r _ [21, 9, 22, 10, 11, 12, 6, 13, 55, 56, 57, 58] rfl (by decide +kernel)
set_option maxRecDepth 20000 in
theorem gX5_writeMemory_X1_needsIndexByte : GoodIn wsX5_writeMemory (wsV RX5 147 RX1 yX1_needsIndexByte wsX1_needsIndexByte) := goodIn_app (goodIn_of _ (by decide +kernel)) ggX5_writeMemory_X1_needsIndexByte
set_option maxRecDepth 20000 in
theorem ggX5_writeMemory_X1_indexByte : GoodIn wsX5_writeMemory wsX1_indexByte := goodIn_r _ [34, 35, 22, 9, 55, 56, 57, 58] rfl (by decide +kernel)
set_option maxRecDepth 20000 in
theorem gX5_writeMemory_X1_indexByte : GoodIn wsX5_writeMemory (wsV RX5 150 RX1 yX1_indexByte wsX1_indexByte) := goodIn_app (goodIn_of _ (by decide +kernel)) ggX5_writeMemory_X1_indexByte
set_option maxRecDepth 20000 in
theorem ggX5_writeMemory_X1_displacementWidth : GoodIn wsX5_writeMemory wsX1_displacementWidth := goodIn_r _ [39, 10, 11, 12, 6, 13, 9, 40, 4, 5, 7, 8, 55, 56, 57, 58] rfl (by decide +kernel)
set_option maxRecDepth 20000 in
theorem gX5_writeMemory_X1_displacementWidth : GoodIn wsX5_writeMemory (wsV RX5 156 RX1 yX1_displacementWidth wsX1_displacementWidth) := goodIn_app (goodIn_of _ (by decide +kernel)) ggX5_writeMemory_X1_displacementWidth
set_option maxRecDepth 20000 in
theorem ggX5_writeMemory_X2_appendLowestFirst : GoodIn wsX5_writeMemory wsX2_appendLowestFirst := goodIn_r _ [44, 45, 24, 25, 26, 27, 28, 29, 59, 60] rfl (by decide +kernel)
set_option maxRecDepth 20000 in
theorem gX5_writeMemory_X2_appendLowestFirst : GoodIn wsX5_writeMemory (wsV RX5 108 RX2 yX2_appendLowestFirst wsX2_appendLowestFirst) := goodIn_app (goodIn_of _ (by decide +kernel)) ggX5_writeMemory_X2_appendLowestFirst
theorem dX5_writeMemory_0 : decode cX5_writeMemory 0 = .ok (.aload_n 0, 1) := by decide +kernel
theorem dX5_writeMemory_1 : decode cX5_writeMemory 1 = .ok (.getfield 12, 3) := by decide +kernel
theorem dX5_writeMemory_4 : decode cX5_writeMemory 4 = .ok (.getfield 55, 3) := by decide +kernel
theorem dX5_writeMemory_7 : decode cX5_writeMemory 7 = .ok (.astore_n 2, 1) := by decide +kernel
theorem dX5_writeMemory_8 : decode cX5_writeMemory 8 = .ok (.aload_n 0, 1) := by decide +kernel
theorem dX5_writeMemory_9 : decode cX5_writeMemory 9 = .ok (.getfield 21, 3) := by decide +kernel
theorem dX5_writeMemory_12 : decode cX5_writeMemory 12 = .ok (.bipush 64, 2) := by decide +kernel
theorem dX5_writeMemory_14 : decode cX5_writeMemory 14 = .ok (.aload_n 2, 1) := by decide +kernel
theorem dX5_writeMemory_15 : decode cX5_writeMemory 15 = .ok (.invokevirtual 141, 3) := by decide +kernel
theorem dX5_writeMemory_18 : decode cX5_writeMemory 18 = .ok (.imul, 1) := by decide +kernel
theorem dX5_writeMemory_19 : decode cX5_writeMemory 19 = .ok (.bipush 8, 2) := by decide +kernel
theorem dX5_writeMemory_21 : decode cX5_writeMemory 21 = .ok (.iload_n 1, 1) := by decide +kernel
theorem dX5_writeMemory_22 : decode cX5_writeMemory 22 = .ok (.imul, 1) := by decide +kernel
theorem dX5_writeMemory_23 : decode cX5_writeMemory 23 = .ok (.iadd, 1) := by decide +kernel
theorem dX5_writeMemory_24 : decode cX5_writeMemory 24 = .ok (.aload_n 2, 1) := by decide +kernel
theorem dX5_writeMemory_25 : decode cX5_writeMemory 25 = .ok (.invokevirtual 144, 3) := by decide +kernel
theorem dX5_writeMemory_28 : decode cX5_writeMemory 28 = .ok (.iadd, 1) := by decide +kernel
theorem dX5_writeMemory_29 : decode cX5_writeMemory 29 = .ok (.invokevirtual 89, 3) := by decide +kernel
theorem dX5_writeMemory_32 : decode cX5_writeMemory 32 = .ok (.aload_n 2, 1) := by decide +kernel
theorem dX5_writeMemory_33 : decode cX5_writeMemory 33 = .ok (.invokevirtual 147, 3) := by decide +kernel
theorem dX5_writeMemory_36 : decode cX5_writeMemory 36 = .ok (.ifCond .eq 14, 3) := by decide +kernel
theorem dX5_writeMemory_39 : decode cX5_writeMemory 39 = .ok (.aload_n 0, 1) := by decide +kernel
theorem dX5_writeMemory_40 : decode cX5_writeMemory 40 = .ok (.getfield 21, 3) := by decide +kernel
theorem dX5_writeMemory_43 : decode cX5_writeMemory 43 = .ok (.aload_n 2, 1) := by decide +kernel
theorem dX5_writeMemory_44 : decode cX5_writeMemory 44 = .ok (.invokevirtual 150, 3) := by decide +kernel
theorem dX5_writeMemory_47 : decode cX5_writeMemory 47 = .ok (.invokevirtual 89, 3) := by decide +kernel
theorem dX5_writeMemory_50 : decode cX5_writeMemory 50 = .ok (.aload_n 0, 1) := by decide +kernel
theorem dX5_writeMemory_51 : decode cX5_writeMemory 51 = .ok (.getfield 21, 3) := by decide +kernel
theorem dX5_writeMemory_54 : decode cX5_writeMemory 54 = .ok (.aload_n 2, 1) := by decide +kernel
theorem dX5_writeMemory_55 : decode cX5_writeMemory 55 = .ok (.getfield 153, 3) := by decide +kernel
theorem dX5_writeMemory_58 : decode cX5_writeMemory 58 = .ok (.i2l, 1) := by decide +kernel
theorem dX5_writeMemory_59 : decode cX5_writeMemory 59 = .ok (.aload_n 2, 1) := by decide +kernel
theorem dX5_writeMemory_60 : decode cX5_writeMemory 60 = .ok (.invokevirtual 156, 3) := by decide +kernel
theorem dX5_writeMemory_63 : decode cX5_writeMemory 63 = .ok (.invokevirtual 108, 3) := by decide +kernel
theorem dX5_writeMemory_66 : decode cX5_writeMemory 66 = .ok (.return_, 1) := by decide +kernel
