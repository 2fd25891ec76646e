theorem dX7_suits_81 : decode cX7_suits 81 = .ok (.iconst 1, 1) := by decide +kernel
theorem dX7_suits_82 : decode cX7_suits 82 = .ok (.goto 4, 3) := by decide +kernel
theorem dX7_suits_85 : decode cX7_suits 85 = .ok (.iconst 0, 1) := by decide +kernel
theorem dX7_suits_86 : decode cX7_suits 86 = .ok (.ireturn, 1) := by decide +kernel
theorem dX7_suits_87 : decode cX7_suits 87 = .ok (.iload_n 3, 1) := by decide +kernel
theorem dX7_suits_88 : decode cX7_suits 88 = .ok (.iconst 3, 1) := by decide +kernel
theorem dX7_suits_89 : decode cX7_suits 89 = .ok (.if_icmp .ne 29, 3) := by decide +kernel
theorem dX7_suits_92 : decode cX7_suits 92 = .ok (.aload_n 0, 1) := by decide +kernel
theorem dX7_suits_93 : decode cX7_suits 93 = .ok (.getfield 28, 3) := by decide +kernel
theorem dX7_suits_96 : decode cX7_suits 96 = .ok (.iload_n 1, 1) := by decide +kernel
theorem dX7_suits_97 : decode cX7_suits 97 = .ok (.iaload, 1) := by decide +kernel
theorem dX7_suits_98 : decode cX7_suits 98 = .ok (.aload_n 0, 1) := by decide +kernel
theorem dX7_suits_99 : decode cX7_suits 99 = .ok (.getfield 31, 3) := by decide +kernel
theorem dX7_suits_102 : decode cX7_suits 102 = .ok (.iconst 1, 1) := by decide +kernel
theorem dX7_suits_103 : decode cX7_suits 103 = .ok (.iaload, 1) := by decide +kernel
theorem dX7_suits_104 : decode cX7_suits 104 = .ok (.aload_n 0, 1) := by decide +kernel
theorem dX7_suits_105 : decode cX7_suits 105 = .ok (.getfield 60, 3) := by decide +kernel
theorem dX7_suits_108 : decode cX7_suits 108 = .ok (.invokestatic 73, 3) := by decide +kernel
theorem dX7_suits_111 : decode cX7_suits 111 = .ok (.ifCond .eq 7, 3) := by decide +kernel
theorem dX7_suits_114 : decode cX7_suits 114 = .ok (.iconst 1, 1) := by decide +kernel
theorem dX7_suits_115 : decode cX7_suits 115 = .ok (.goto 4, 3) := by decide +kernel
theorem dX7_suits_118 : decode cX7_suits 118 = .ok (.iconst 0, 1) := by decide +kernel
theorem dX7_suits_119 : decode cX7_suits 119 = .ok (.ireturn, 1) := by decide +kernel
theorem dX7_suits_120 : decode cX7_suits 120 = .ok (.iload_n 3, 1) := by decide +kernel
theorem dX7_suits_121 : decode cX7_suits 121 = .ok (.iconst 1, 1) := by decide +kernel
theorem dX7_suits_122 : decode cX7_suits 122 = .ok (.if_icmp .ne 12, 3) := by decide +kernel
theorem dX7_suits_125 : decode cX7_suits 125 = .ok (.iload 4, 2) := by decide +kernel
theorem dX7_suits_127 : decode cX7_suits 127 = .ok (.ifCond .ne 7, 3) := by decide +kernel
theorem dX7_suits_130 : decode cX7_suits 130 = .ok (.iconst 1, 1) := by decide +kernel
theorem dX7_suits_131 : decode cX7_suits 131 = .ok (.goto 4, 3) := by decide +kernel
theorem dX7_suits_134 : decode cX7_suits 134 = .ok (.iconst 0, 1) := by decide +kernel
theorem dX7_suits_135 : decode cX7_suits 135 = .ok (.ireturn, 1) := by decide +kernel
theorem dX7_suits_136 : decode cX7_suits 136 = .ok (.iload_n 3, 1) := by decide +kernel
theorem dX7_suits_137 : decode cX7_suits 137 = .ok (.iconst 2, 1) := by decide +kernel
theorem dX7_suits_138 : decode cX7_suits 138 = .ok (.if_icmp .ne 7, 3) := by decide +kernel
theorem dX7_suits_141 : decode cX7_suits 141 = .ok (.iconst 1, 1) := by decide +kernel
theorem dX7_suits_142 : decode cX7_suits 142 = .ok (.goto 4, 3) := by decide +kernel
theorem dX7_suits_145 : decode cX7_suits 145 = .ok (.iconst 0, 1) := by decide +kernel
theorem dX7_suits_146 : decode cX7_suits 146 = .ok (.ireturn, 1) := by decide +kernel
theorem dX7_suits_147 : decode cX7_suits 147 = .ok (.iload_n 3, 1) := by decide +kernel
theorem dX7_suits_148 : decode cX7_suits 148 = .ok (.iconst 3, 1) := by decide +kernel
theorem dX7_suits_149 : decode cX7_suits 149 = .ok (.if_icmp .ne 16, 3) := by decide +kernel
theorem dX7_suits_152 : decode cX7_suits 152 = .ok (.aload_n 0, 1) := by decide +kernel
theorem dX7_suits_153 : decode cX7_suits 153 = .ok (.getfield 60, 3) := by decide +kernel
theorem dX7_suits_156 : decode cX7_suits 156 = .ok (.lconst 1, 1) := by decide +kernel
theorem dX7_suits_157 : decode cX7_suits 157 = .ok (.lcmp, 1) := by decide +kernel
theorem dX7_suits_158 : decode cX7_suits 158 = .ok (.ifCond .ne 7, 3) := by decide +kernel
theorem dX7_suits_161 : decode cX7_suits 161 = .ok (.iconst 1, 1) := by decide +kernel
theorem dX7_suits_162 : decode cX7_suits 162 = .ok (.goto 4, 3) := by decide +kernel
theorem dX7_suits_165 : decode cX7_suits 165 = .ok (.iconst 0, 1) := by decide +kernel
theorem dX7_suits_166 : decode cX7_suits 166 = .ok (.ireturn, 1) := by decide +kernel
theorem dX7_suits_167 : decode cX7_suits 167 = .ok (.iload_n 3, 1) := by decide +kernel
theorem dX7_suits_168 : decode cX7_suits 168 = .ok (.iconst 1, 1) := by decide +kernel
theorem dX7_suits_169 : decode cX7_suits 169 = .ok (.if_icmp .ne 13, 3) := by decide +kernel
theorem dX7_suits_172 : decode cX7_suits 172 = .ok (.iload 4, 2) := by decide +kernel
theorem dX7_suits_174 : decode cX7_suits 174 = .ok (.iconst 1, 1) := by decide +kernel
theorem dX7_suits_175 : decode cX7_suits 175 = .ok (.if_icmp .ne 7, 3) := by decide +kernel
theorem dX7_suits_178 : decode cX7_suits 178 = .ok (.iconst 1, 1) := by decide +kernel
theorem dX7_suits_179 : decode cX7_suits 179 = .ok (.goto 4, 3) := by decide +kernel
theorem dX7_suits_182 : decode cX7_suits 182 = .ok (.iconst 0, 1) := by decide +kernel
theorem dX7_suits_183 : decode cX7_suits 183 = .ok (.ireturn, 1) := by decide +kernel
theorem dX7_suits_184 : decode cX7_suits 184 = .ok (.iload_n 3, 1) := by decide +kernel
theorem dX7_suits_185 : decode cX7_suits 185 = .ok (.ifCond .ne 7, 3) := by decide +kernel
theorem dX7_suits_188 : decode cX7_suits 188 = .ok (.iconst 1, 1) := by decide +kernel
theorem dX7_suits_189 : decode cX7_suits 189 = .ok (.goto 4, 3) := by decide +kernel
theorem dX7_suits_192 : decode cX7_suits 192 = .ok (.iconst 0, 1) := by decide +kernel
theorem dX7_suits_193 : decode cX7_suits 193 = .ok (.ireturn, 1) := by decide +kernel
theorem dX7_width_0 : decode cX7_width 0 = .ok (.iload_n 2, 1) := by decide +kernel
theorem dX7_width_1 : decode cX7_width 1 = .ok (.iconst 2, 1) := by decide +kernel
theorem dX7_width_2 : decode cX7_width 2 = .ok (.if_icmp .ne 29, 3) := by decide +kernel
theorem dX7_width_5 : decode cX7_width 5 = .ok (.aload_n 0, 1) := by decide +kernel
theorem dX7_width_6 : decode cX7_width 6 = .ok (.getfield 7, 3) := by decide +kernel
theorem dX7_width_9 : decode cX7_width 9 = .ok (.iload_n 1, 1) := by decide +kernel
theorem dX7_width_10 : decode cX7_width 10 = .ok (.iaload, 1) := by decide +kernel
theorem dX7_width_11 : decode cX7_width 11 = .ok (.bipush 12, 2) := by decide +kernel
theorem dX7_width_13 : decode cX7_width 13 = .ok (.if_icmp .eq 14, 3) := by decide +kernel
theorem dX7_width_16 : decode cX7_width 16 = .ok (.aload_n 0, 1) := by decide +kernel
theorem dX7_width_17 : decode cX7_width 17 = .ok (.getfield 7, 3) := by decide +kernel
theorem dX7_width_20 : decode cX7_width 20 = .ok (.iload_n 1, 1) := by decide +kernel
theorem dX7_width_21 : decode cX7_width 21 = .ok (.iaload, 1) := by decide +kernel
theorem dX7_width_22 : decode cX7_width 22 = .ok (.bipush 13, 2) := by decide +kernel
theorem dX7_width_24 : decode cX7_width 24 = .ok (.if_icmp .ne 7, 3) := by decide +kernel
theorem dX7_width_27 : decode cX7_width 27 = .ok (.iconst 1, 1) := by decide +kernel
theorem dX7_width_28 : decode cX7_width 28 = .ok (.goto 4, 3) := by decide +kernel
theorem dX7_width_31 : decode cX7_width 31 = .ok (.iconst 0, 1) := by decide +kernel
theorem dX7_width_32 : decode cX7_width 32 = .ok (.istore 4, 2) := by decide +kernel
theorem dX7_width_34 : decode cX7_width 34 = .ok (.iload 4, 2) := by decide +kernel
theorem dX7_width_36 : decode cX7_width 36 = .ok (.ifCond .ne 9, 3) := by decide +kernel
theorem dX7_width_39 : decode cX7_width 39 = .ok (.iload_n 2, 1) := by decide +kernel
theorem dX7_width_40 : decode cX7_width 40 = .ok (.bipush 8, 2) := by decide +kernel
theorem dX7_width_42 : decode cX7_width 42 = .ok (.if_icmp .ne 7, 3) := by decide +kernel
theorem dX7_width_45 : decode cX7_width 45 = .ok (.iconst 1, 1) := by decide +kernel
theorem dX7_width_46 : decode cX7_width 46 = .ok (.goto 24, 3) := by decide +kernel
theorem dX7_width_49 : decode cX7_width 49 = .ok (.iload_n 2, 1) := by decide +kernel
theorem dX7_width_50 : decode cX7_width 50 = .ok (.iconst 2, 1) := by decide +kernel
theorem dX7_width_51 : decode cX7_width 51 = .ok (.if_icmp .ne 18, 3) := by decide +kernel
theorem dX7_width_54 : decode cX7_width 54 = .ok (.aload_n 0, 1) := by decide +kernel
theorem dX7_width_55 : decode cX7_width 55 = .ok (.getfield 7, 3) := by decide +kernel
theorem dX7_width_58 : decode cX7_width 58 = .ok (.iload_n 1, 1) := by decide +kernel
theorem dX7_width_59 : decode cX7_width 59 = .ok (.iaload, 1) := by decide +kernel
theorem dX7_width_60 : decode cX7_width 60 = .ok (.bipush 14, 2) := by decide +kernel
theorem dX7_width_62 : decode cX7_width 62 = .ok (.if_icmp .ne 7, 3) := by decide +kernel
theorem dX7_width_65 : decode cX7_width 65 = .ok (.iconst 4, 1) := by decide +kernel
theorem dX7_width_66 : decode cX7_width 66 = .ok (.goto 4, 3) := by decide +kernel
theorem dX7_width_69 : decode cX7_width 69 = .ok (.iload_n 3, 1) := by decide +kernel
theorem dX7_width_70 : decode cX7_width 70 = .ok (.ireturn, 1) := by decide +kernel
theorem dX7_put_0 : decode cX7_put 0 = .ok (.aload_n 0, 1) := by decide +kernel
theorem dX7_put_1 : decode cX7_put 1 = .ok (.getfield 40, 3) := by decide +kernel
theorem dX7_put_4 : decode cX7_put 4 = .ok (.aload_n 0, 1) := by decide +kernel
theorem dX7_put_5 : decode cX7_put 5 = .ok (.getfield 77, 3) := by decide +kernel
theorem dX7_put_8 : decode cX7_put 8 = .ok (.iload_n 1, 1) := by decide +kernel
theorem dX7_put_9 : decode cX7_put 9 = .ok (.sipush 255, 3) := by decide +kernel
theorem dX7_put_12 : decode cX7_put 12 = .ok (.iand, 1) := by decide +kernel
theorem dX7_put_13 : decode cX7_put 13 = .ok (.iastore, 1) := by decide +kernel
theorem dX7_put_14 : decode cX7_put 14 = .ok (.aload_n 0, 1) := by decide +kernel
theorem dX7_put_15 : decode cX7_put 15 = .ok (.dup, 1) := by decide +kernel
theorem dX7_put_16 : decode cX7_put 16 = .ok (.getfield 77, 3) := by decide +kernel
theorem dX7_put_19 : decode cX7_put 19 = .ok (.iconst 1, 1) := by decide +kernel
theorem dX7_put_20 : decode cX7_put 20 = .ok (.iadd, 1) := by decide +kernel
theorem dX7_put_21 : decode cX7_put 21 = .ok (.putfield 77, 3) := by decide +kernel
theorem dX7_put_24 : decode cX7_put 24 = .ok (.return_, 1) := by decide +kernel
set_option maxRecDepth 20000 in
theorem ggX7_putAll_X7_put : GoodIn wsX7_putAll wsX7_put := goodIn_r _ [6, 7, 8, 9, 10, 11, 12, 13, 14, 15, 16, 17, 18, 19, 20, 21, 22, 23, 24, 25, 26, 27, 28, 29, 30, 31] rfl (by decide +kernel)
set_option maxRecDepth 20000 in
theorem gX7_putAll_X7_put : GoodIn wsX7_putAll (wsV RX7 82 RX7 yX7_put wsX7_put) := goodIn_app (goodIn_of _ (by decide +kernel)) ggX7_putAll_X7_put
theorem dX7_putAll_0 : decode cX7_putAll 0 = .ok (.iconst 0, 1) := by decide +kernel
theorem dX7_putAll_1 : decode cX7_putAll 1 = .ok (.istore 4, 2) := by decide +kernel
theorem dX7_putAll_3 : decode cX7_putAll 3 = .ok (.iload 4, 2) := by decide +kernel
theorem dX7_putAll_5 : decode cX7_putAll 5 = .ok (.iload_n 3, 1) := by decide +kernel
theorem dX7_putAll_6 : decode cX7_putAll 6 = .ok (.if_icmp .ge 25, 3) := by decide +kernel
theorem dX7_putAll_9 : decode cX7_putAll 9 = .ok (.aload_n 0, 1) := by decide +kernel
theorem dX7_putAll_10 : decode cX7_putAll 10 = .ok (.lload_n 1, 1) := by decide +kernel
theorem dX7_putAll_11 : decode cX7_putAll 11 = .ok (.bipush 8, 2) := by decide +kernel
theorem dX7_putAll_13 : decode cX7_putAll 13 = .ok (.iload 4, 2) := by decide +kernel
theorem dX7_putAll_15 : decode cX7_putAll 15 = .ok (.imul, 1) := by decide +kernel
theorem dX7_putAll_16 : decode cX7_putAll 16 = .ok (.lshr, 1) := by decide +kernel
theorem dX7_putAll_17 : decode cX7_putAll 17 = .ok (.ldc2_w 80, 3) := by decide +kernel
theorem dX7_putAll_20 : decode cX7_putAll 20 = .ok (.land, 1) := by decide +kernel
theorem dX7_putAll_21 : decode cX7_putAll 21 = .ok (.l2i, 1) := by decide +kernel
theorem dX7_putAll_22 : decode cX7_putAll 22 = .ok (.invokevirtual 82, 3) := by decide +kernel
theorem dX7_putAll_25 : decode cX7_putAll 25 = .ok (.iinc 4 1, 3) := by decide +kernel
theorem dX7_putAll_28 : decode cX7_putAll 28 = .ok (.goto (-25), 3) := by decide +kernel
theorem dX7_putAll_31 : decode cX7_putAll 31 = .ok (.return_, 1) := by decide +kernel
theorem dX7_isMemory_0 : decode cX7_isMemory 0 = .ok (.aload_n 0, 1) := by decide +kernel
theorem dX7_isMemory_1 : decode cX7_isMemory 1 = .ok (.getfield 31, 3) := by decide +kernel
theorem dX7_isMemory_4 : decode cX7_isMemory 4 = .ok (.bipush 9, 2) := by decide +kernel
theorem dX7_isMemory_6 : decode cX7_isMemory 6 = .ok (.iaload, 1) := by decide +kernel
theorem dX7_isMemory_7 : decode cX7_isMemory 7 = .ok (.istore_n 1, 1) := by decide +kernel
theorem dX7_isMemory_8 : decode cX7_isMemory 8 = .ok (.aload_n 0, 1) := by decide +kernel
theorem dX7_isMemory_9 : decode cX7_isMemory 9 = .ok (.getfield 31, 3) := by decide +kernel
theorem dX7_isMemory_12 : decode cX7_isMemory 12 = .ok (.bipush 10, 2) := by decide +kernel
theorem dX7_isMemory_14 : decode cX7_isMemory 14 = .ok (.iaload, 1) := by decide +kernel
theorem dX7_isMemory_15 : decode cX7_isMemory 15 = .ok (.istore_n 2, 1) := by decide +kernel
theorem dX7_isMemory_16 : decode cX7_isMemory 16 = .ok (.aload_n 0, 1) := by decide +kernel
theorem dX7_isMemory_17 : decode cX7_isMemory 17 = .ok (.getfield 31, 3) := by decide +kernel
theorem dX7_isMemory_20 : decode cX7_isMemory 20 = .ok (.bipush 11, 2) := by decide +kernel
theorem dX7_isMemory_22 : decode cX7_isMemory 22 = .ok (.iaload, 1) := by decide +kernel
theorem dX7_isMemory_23 : decode cX7_isMemory 23 = .ok (.istore_n 3, 1) := by decide +kernel
theorem dX7_isMemory_24 : decode cX7_isMemory 24 = .ok (.iload_n 3, 1) := by decide +kernel
theorem dX7_isMemory_25 : decode cX7_isMemory 25 = .ok (.iconst 1, 1) := by decide +kernel
theorem dX7_isMemory_26 : decode cX7_isMemory 26 = .ok (.if_icmp .eq 19, 3) := by decide +kernel
theorem dX7_isMemory_29 : decode cX7_isMemory 29 = .ok (.iload_n 3, 1) := by decide +kernel
theorem dX7_isMemory_30 : decode cX7_isMemory 30 = .ok (.iconst 2, 1) := by decide +kernel
theorem dX7_isMemory_31 : decode cX7_isMemory 31 = .ok (.if_icmp .eq 14, 3) := by decide +kernel
theorem dX7_isMemory_34 : decode cX7_isMemory 34 = .ok (.iload_n 3, 1) := by decide +kernel
theorem dX7_isMemory_35 : decode cX7_isMemory 35 = .ok (.iconst 4, 1) := by decide +kernel
theorem dX7_isMemory_36 : decode cX7_isMemory 36 = .ok (.if_icmp .eq 9, 3) := by decide +kernel
theorem dX7_isMemory_39 : decode cX7_isMemory 39 = .ok (.iload_n 3, 1) := by decide +kernel
theorem dX7_isMemory_40 : decode cX7_isMemory 40 = .ok (.bipush 8, 2) := by decide +kernel
theorem dX7_isMemory_42 : decode cX7_isMemory 42 = .ok (.if_icmp .ne 7, 3) := by decide +kernel
theorem dX7_isMemory_45 : decode cX7_isMemory 45 = .ok (.iconst 1, 1) := by decide +kernel
theorem dX7_isMemory_46 : decode cX7_isMemory 46 = .ok (.goto 4, 3) := by decide +kernel
theorem dX7_isMemory_49 : decode cX7_isMemory 49 = .ok (.iconst 0, 1) := by decide +kernel
theorem dX7_isMemory_50 : decode cX7_isMemory 50 = .ok (.istore 4, 2) := by decide +kernel
theorem dX7_isMemory_52 : decode cX7_isMemory 52 = .ok (.iload_n 1, 1) := by decide +kernel
theorem dX7_isMemory_53 : decode cX7_isMemory 53 = .ok (.iconst (-1), 1) := by decide +kernel
theorem dX7_isMemory_54 : decode cX7_isMemory 54 = .ok (.if_icmp .lt 53, 3) := by decide +kernel
theorem dX7_isMemory_57 : decode cX7_isMemory 57 = .ok (.iload_n 1, 1) := by decide +kernel
theorem dX7_isMemory_58 : decode cX7_isMemory 58 = .ok (.bipush 16, 2) := by decide +kernel
theorem dX7_isMemory_60 : decode cX7_isMemory 60 = .ok (.if_icmp .gt 47, 3) := by decide +kernel
theorem dX7_isMemory_63 : decode cX7_isMemory 63 = .ok (.iload_n 2, 1) := by decide +kernel
theorem dX7_isMemory_64 : decode cX7_isMemory 64 = .ok (.iconst (-1), 1) := by decide +kernel
theorem dX7_isMemory_65 : decode cX7_isMemory 65 = .ok (.if_icmp .lt 42, 3) := by decide +kernel
theorem dX7_isMemory_68 : decode cX7_isMemory 68 = .ok (.iload_n 2, 1) := by decide +kernel
theorem dX7_isMemory_69 : decode cX7_isMemory 69 = .ok (.bipush 15, 2) := by decide +kernel
theorem dX7_isMemory_71 : decode cX7_isMemory 71 = .ok (.if_icmp .gt 36, 3) := by decide +kernel
theorem dX7_isMemory_74 : decode cX7_isMemory 74 = .ok (.iload_n 2, 1) := by decide +kernel
theorem dX7_isMemory_75 : decode cX7_isMemory 75 = .ok (.iconst 4, 1) := by decide +kernel
theorem dX7_isMemory_76 : decode cX7_isMemory 76 = .ok (.if_icmp .eq 31, 3) := by decide +kernel
theorem dX7_isMemory_79 : decode cX7_isMemory 79 = .ok (.iload 4, 2) := by decide +kernel
theorem dX7_isMemory_81 : decode cX7_isMemory 81 = .ok (.ifCond .eq 26, 3) := by decide +kernel
theorem dX7_isMemory_84 : decode cX7_isMemory 84 = .ok (.iload_n 2, 1) := by decide +kernel
theorem dX7_isMemory_85 : decode cX7_isMemory 85 = .ok (.ifCond .ge 8, 3) := by decide +kernel
theorem dX7_isMemory_88 : decode cX7_isMemory 88 = .ok (.iload_n 3, 1) := by decide +kernel
theorem dX7_isMemory_89 : decode cX7_isMemory 89 = .ok (.iconst 1, 1) := by decide +kernel
theorem dX7_isMemory_90 : decode cX7_isMemory 90 = .ok (.if_icmp .ne 17, 3) := by decide +kernel
theorem dX7_isMemory_93 : decode cX7_isMemory 93 = .ok (.iload_n 1, 1) := by decide +kernel
theorem dX7_isMemory_94 : decode cX7_isMemory 94 = .ok (.bipush 16, 2) := by decide +kernel
theorem dX7_isMemory_96 : decode cX7_isMemory 96 = .ok (.if_icmp .ne 7, 3) := by decide +kernel
theorem dX7_isMemory_99 : decode cX7_isMemory 99 = .ok (.iload_n 2, 1) := by decide +kernel
theorem dX7_isMemory_100 : decode cX7_isMemory 100 = .ok (.ifCond .ge 7, 3) := by decide +kernel
theorem dX7_isMemory_103 : decode cX7_isMemory 103 = .ok (.iconst 1, 1) := by decide +kernel
