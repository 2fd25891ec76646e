theorem dX7_decode_67 : decode cX7_decode 67 = .ok (.goto 4, 3) := by decide +kernel
theorem dX7_decode_70 : decode cX7_decode 70 = .ok (.iconst 0, 1) := by decide +kernel
theorem dX7_decode_71 : decode cX7_decode 71 = .ok (.putfield 139, 3) := by decide +kernel
theorem dX7_decode_74 : decode cX7_decode 74 = .ok (.aload_n 0, 1) := by decide +kernel
theorem dX7_decode_75 : decode cX7_decode 75 = .ok (.aload_n 0, 1) := by decide +kernel
theorem dX7_decode_76 : decode cX7_decode 76 = .ok (.getfield 139, 3) := by decide +kernel
theorem dX7_decode_79 : decode cX7_decode 79 = .ok (.ifCond .eq 15, 3) := by decide +kernel
theorem dX7_decode_82 : decode cX7_decode 82 = .ok (.aload_n 0, 1) := by decide +kernel
theorem dX7_decode_83 : decode cX7_decode 83 = .ok (.getfield 43, 3) := by decide +kernel
theorem dX7_decode_86 : decode cX7_decode 86 = .ok (.iload_n 2, 1) := by decide +kernel
theorem dX7_decode_87 : decode cX7_decode 87 = .ok (.iaload, 1) := by decide +kernel
theorem dX7_decode_88 : decode cX7_decode 88 = .ok (.bipush 15, 2) := by decide +kernel
theorem dX7_decode_90 : decode cX7_decode 90 = .ok (.iand, 1) := by decide +kernel
theorem dX7_decode_91 : decode cX7_decode 91 = .ok (.goto 4, 3) := by decide +kernel
theorem dX7_decode_94 : decode cX7_decode 94 = .ok (.iconst 0, 1) := by decide +kernel
theorem dX7_decode_95 : decode cX7_decode 95 = .ok (.putfield 136, 3) := by decide +kernel
theorem dX7_decode_98 : decode cX7_decode 98 = .ok (.iload_n 2, 1) := by decide +kernel
theorem dX7_decode_99 : decode cX7_decode 99 = .ok (.aload_n 0, 1) := by decide +kernel
theorem dX7_decode_100 : decode cX7_decode 100 = .ok (.getfield 139, 3) := by decide +kernel
theorem dX7_decode_103 : decode cX7_decode 103 = .ok (.ifCond .eq 7, 3) := by decide +kernel
theorem dX7_decode_106 : decode cX7_decode 106 = .ok (.iconst 1, 1) := by decide +kernel
theorem dX7_decode_107 : decode cX7_decode 107 = .ok (.goto 4, 3) := by decide +kernel
theorem dX7_decode_110 : decode cX7_decode 110 = .ok (.iconst 0, 1) := by decide +kernel
theorem dX7_decode_111 : decode cX7_decode 111 = .ok (.iadd, 1) := by decide +kernel
theorem dX7_decode_112 : decode cX7_decode 112 = .ok (.istore_n 2, 1) := by decide +kernel
theorem dX7_decode_113 : decode cX7_decode 113 = .ok (.iconst 0, 1) := by decide +kernel
theorem dX7_decode_114 : decode cX7_decode 114 = .ok (.istore_n 3, 1) := by decide +kernel
theorem dX7_decode_115 : decode cX7_decode 115 = .ok (.iconst 0, 1) := by decide +kernel
theorem dX7_decode_116 : decode cX7_decode 116 = .ok (.istore 4, 2) := by decide +kernel
theorem dX7_decode_118 : decode cX7_decode 118 = .ok (.iload 4, 2) := by decide +kernel
theorem dX7_decode_120 : decode cX7_decode 120 = .ok (.aload_n 0, 1) := by decide +kernel
theorem dX7_decode_121 : decode cX7_decode 121 = .ok (.getfield 53, 3) := by decide +kernel
theorem dX7_decode_124 : decode cX7_decode 124 = .ok (.if_icmp .ge 70, 3) := by decide +kernel
theorem dX7_decode_127 : decode cX7_decode 127 = .ok (.iload_n 3, 1) := by decide +kernel
theorem dX7_decode_128 : decode cX7_decode 128 = .ok (.ifCond .ne 66, 3) := by decide +kernel
theorem dX7_decode_131 : decode cX7_decode 131 = .ok (.aload_n 0, 1) := by decide +kernel
theorem dX7_decode_132 : decode cX7_decode 132 = .ok (.iload 4, 2) := by decide +kernel
theorem dX7_decode_134 : decode cX7_decode 134 = .ok (.iload_n 2, 1) := by decide +kernel
theorem dX7_decode_135 : decode cX7_decode 135 = .ok (.iload_n 1, 1) := by decide +kernel
theorem dX7_decode_136 : decode cX7_decode 136 = .ok (.invokevirtual 155, 3) := by decide +kernel
theorem dX7_decode_139 : decode cX7_decode 139 = .ok (.ifCond .ne 6, 3) := by decide +kernel
theorem dX7_decode_142 : decode cX7_decode 142 = .ok (.goto 46, 3) := by decide +kernel
theorem dX7_decode_145 : decode cX7_decode 145 = .ok (.aload_n 0, 1) := by decide +kernel
theorem dX7_decode_146 : decode cX7_decode 146 = .ok (.getfield 129, 3) := by decide +kernel
theorem dX7_decode_149 : decode cX7_decode 149 = .ok (.istore_n 3, 1) := by decide +kernel
theorem dX7_decode_150 : decode cX7_decode 150 = .ok (.iconst 0, 1) := by decide +kernel
theorem dX7_decode_151 : decode cX7_decode 151 = .ok (.istore 5, 2) := by decide +kernel
theorem dX7_decode_153 : decode cX7_decode 153 = .ok (.iload 5, 2) := by decide +kernel
theorem dX7_decode_155 : decode cX7_decode 155 = .ok (.bipush 13, 2) := by decide +kernel
theorem dX7_decode_157 : decode cX7_decode 157 = .ok (.if_icmp .ge 23, 3) := by decide +kernel
theorem dX7_decode_160 : decode cX7_decode 160 = .ok (.aload_n 0, 1) := by decide +kernel
theorem dX7_decode_161 : decode cX7_decode 161 = .ok (.getfield 31, 3) := by decide +kernel
theorem dX7_decode_164 : decode cX7_decode 164 = .ok (.iload 5, 2) := by decide +kernel
theorem dX7_decode_166 : decode cX7_decode 166 = .ok (.aload_n 0, 1) := by decide +kernel
theorem dX7_decode_167 : decode cX7_decode 167 = .ok (.getfield 34, 3) := by decide +kernel
theorem dX7_decode_170 : decode cX7_decode 170 = .ok (.iload 5, 2) := by decide +kernel
theorem dX7_decode_172 : decode cX7_decode 172 = .ok (.iaload, 1) := by decide +kernel
theorem dX7_decode_173 : decode cX7_decode 173 = .ok (.iastore, 1) := by decide +kernel
theorem dX7_decode_174 : decode cX7_decode 174 = .ok (.iinc 5 1, 3) := by decide +kernel
theorem dX7_decode_177 : decode cX7_decode 177 = .ok (.goto (-24), 3) := by decide +kernel
theorem dX7_decode_180 : decode cX7_decode 180 = .ok (.aload_n 0, 1) := by decide +kernel
theorem dX7_decode_181 : decode cX7_decode 181 = .ok (.aload_n 0, 1) := by decide +kernel
theorem dX7_decode_182 : decode cX7_decode 182 = .ok (.getfield 146, 3) := by decide +kernel
theorem dX7_decode_185 : decode cX7_decode 185 = .ok (.putfield 60, 3) := by decide +kernel
theorem dX7_decode_188 : decode cX7_decode 188 = .ok (.iinc 4 1, 3) := by decide +kernel
theorem dX7_decode_191 : decode cX7_decode 191 = .ok (.goto (-73), 3) := by decide +kernel
theorem dX7_decode_194 : decode cX7_decode 194 = .ok (.aload_n 0, 1) := by decide +kernel
theorem dX7_decode_195 : decode cX7_decode 195 = .ok (.iconst 0, 1) := by decide +kernel
theorem dX7_decode_196 : decode cX7_decode 196 = .ok (.putfield 122, 3) := by decide +kernel
theorem dX7_decode_199 : decode cX7_decode 199 = .ok (.aload_n 0, 1) := by decide +kernel
theorem dX7_decode_200 : decode cX7_decode 200 = .ok (.iload_n 3, 1) := by decide +kernel
theorem dX7_decode_201 : decode cX7_decode 201 = .ok (.ifCond .le 7, 3) := by decide +kernel
theorem dX7_decode_204 : decode cX7_decode 204 = .ok (.iconst 0, 1) := by decide +kernel
theorem dX7_decode_205 : decode cX7_decode 205 = .ok (.goto 4, 3) := by decide +kernel
theorem dX7_decode_208 : decode cX7_decode 208 = .ok (.iconst 1, 1) := by decide +kernel
theorem dX7_decode_209 : decode cX7_decode 209 = .ok (.putfield 57, 3) := by decide +kernel
theorem dX7_decode_212 : decode cX7_decode 212 = .ok (.iload_n 3, 1) := by decide +kernel
theorem dX7_decode_213 : decode cX7_decode 213 = .ok (.ireturn, 1) := by decide +kernel
