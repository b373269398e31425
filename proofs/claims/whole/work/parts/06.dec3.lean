theorem dX13_init_0 : decode cX13_init 0 = .ok (.aload_n 0, 1) := by decide +kernel
theorem dX13_init_1 : decode cX13_init 1 = .ok (.invokespecial 3, 3) := by decide +kernel
theorem dX13_init_4 : decode cX13_init 4 = .ok (.aload_n 0, 1) := by decide +kernel
theorem dX13_init_5 : decode cX13_init 5 = .ok (.sipush 240, 3) := by decide +kernel
theorem dX13_init_8 : decode cX13_init 8 = .ok (.newarray .byte, 2) := by decide +kernel
theorem dX13_init_10 : decode cX13_init 10 = .ok (.putfield 9, 3) := by decide +kernel
theorem dX13_init_13 : decode cX13_init 13 = .ok (.aload_n 0, 1) := by decide +kernel
theorem dX13_init_14 : decode cX13_init 14 = .ok (.sipush 1440, 3) := by decide +kernel
theorem dX13_init_17 : decode cX13_init 17 = .ok (.newarray .byte, 2) := by decide +kernel
theorem dX13_init_19 : decode cX13_init 19 = .ok (.putfield 13, 3) := by decide +kernel
theorem dX13_init_22 : decode cX13_init 22 = .ok (.aload_n 0, 1) := by decide +kernel
theorem dX13_init_23 : decode cX13_init 23 = .ok (.bipush 6, 2) := by decide +kernel
theorem dX13_init_25 : decode cX13_init 25 = .ok (.newarray .int, 2) := by decide +kernel
theorem dX13_init_27 : decode cX13_init 27 = .ok (.putfield 16, 3) := by decide +kernel
theorem dX13_init_30 : decode cX13_init 30 = .ok (.aload_n 0, 1) := by decide +kernel
theorem dX13_init_31 : decode cX13_init 31 = .ok (.sipush 128, 3) := by decide +kernel
theorem dX13_init_34 : decode cX13_init 34 = .ok (.newarray .int, 2) := by decide +kernel
theorem dX13_init_36 : decode cX13_init 36 = .ok (.putfield 20, 3) := by decide +kernel
theorem dX13_init_39 : decode cX13_init 39 = .ok (.aload_n 0, 1) := by decide +kernel
theorem dX13_init_40 : decode cX13_init 40 = .ok (.aload_n 0, 1) := by decide +kernel
theorem dX13_init_41 : decode cX13_init 41 = .ok (.getfield 9, 3) := by decide +kernel
theorem dX13_init_44 : decode cX13_init 44 = .ok (.putfield 23, 3) := by decide +kernel
theorem dX13_init_47 : decode cX13_init 47 = .ok (.aload_n 0, 1) := by decide +kernel
theorem dX13_init_48 : decode cX13_init 48 = .ok (.ldc 26, 2) := by decide +kernel
theorem dX13_init_50 : decode cX13_init 50 = .ok (.putfield 28, 3) := by decide +kernel
theorem dX13_init_53 : decode cX13_init 53 = .ok (.aload_n 0, 1) := by decide +kernel
theorem dX13_init_54 : decode cX13_init 54 = .ok (.ldc 32, 2) := by decide +kernel
theorem dX13_init_56 : decode cX13_init 56 = .ok (.putfield 34, 3) := by decide +kernel
theorem dX13_init_59 : decode cX13_init 59 = .ok (.aload_n 0, 1) := by decide +kernel
theorem dX13_init_60 : decode cX13_init 60 = .ok (.sipush 336, 3) := by decide +kernel
theorem dX13_init_63 : decode cX13_init 63 = .ok (.newarray .int, 2) := by decide +kernel
theorem dX13_init_65 : decode cX13_init 65 = .ok (.putfield 37, 3) := by decide +kernel
theorem dX13_init_68 : decode cX13_init 68 = .ok (.aload_n 0, 1) := by decide +kernel
theorem dX13_init_69 : decode cX13_init 69 = .ok (.sipush 360, 3) := by decide +kernel
theorem dX13_init_72 : decode cX13_init 72 = .ok (.newarray .int, 2) := by decide +kernel
theorem dX13_init_74 : decode cX13_init 74 = .ok (.putfield 40, 3) := by decide +kernel
theorem dX13_init_77 : decode cX13_init 77 = .ok (.aload_n 0, 1) := by decide +kernel
theorem dX13_init_78 : decode cX13_init 78 = .ok (.sipush 1728, 3) := by decide +kernel
theorem dX13_init_81 : decode cX13_init 81 = .ok (.newarray .int, 2) := by decide +kernel
theorem dX13_init_83 : decode cX13_init 83 = .ok (.putfield 43, 3) := by decide +kernel
theorem dX13_init_86 : decode cX13_init 86 = .ok (.aload_n 0, 1) := by decide +kernel
theorem dX13_init_87 : decode cX13_init 87 = .ok (.iconst 4, 1) := by decide +kernel
theorem dX13_init_88 : decode cX13_init 88 = .ok (.newarray .int, 2) := by decide +kernel
theorem dX13_init_90 : decode cX13_init 90 = .ok (.putfield 46, 3) := by decide +kernel
theorem dX13_init_93 : decode cX13_init 93 = .ok (.aload_n 0, 1) := by decide +kernel
theorem dX13_init_94 : decode cX13_init 94 = .ok (.iconst 4, 1) := by decide +kernel
theorem dX13_init_95 : decode cX13_init 95 = .ok (.newarray .int, 2) := by decide +kernel
theorem dX13_init_97 : decode cX13_init 97 = .ok (.putfield 49, 3) := by decide +kernel
theorem dX13_init_100 : decode cX13_init 100 = .ok (.aload_n 0, 1) := by decide +kernel
theorem dX13_init_101 : decode cX13_init 101 = .ok (.iconst (-1), 1) := by decide +kernel
theorem dX13_init_102 : decode cX13_init 102 = .ok (.putfield 52, 3) := by decide +kernel
theorem dX13_init_105 : decode cX13_init 105 = .ok (.aload_n 0, 1) := by decide +kernel
theorem dX13_init_106 : decode cX13_init 106 = .ok (.bipush 72, 2) := by decide +kernel
theorem dX13_init_108 : decode cX13_init 108 = .ok (.newarray .boolean, 2) := by decide +kernel
theorem dX13_init_110 : decode cX13_init 110 = .ok (.putfield 56, 3) := by decide +kernel
theorem dX13_init_113 : decode cX13_init 113 = .ok (.aload_n 0, 1) := by decide +kernel
theorem dX13_init_114 : decode cX13_init 114 = .ok (.iconst 4, 1) := by decide +kernel
theorem dX13_init_115 : decode cX13_init 115 = .ok (.newarray .int, 2) := by decide +kernel
theorem dX13_init_117 : decode cX13_init 117 = .ok (.dup, 1) := by decide +kernel
theorem dX13_init_118 : decode cX13_init 118 = .ok (.iconst 0, 1) := by decide +kernel
theorem dX13_init_119 : decode cX13_init 119 = .ok (.iconst 0, 1) := by decide +kernel
theorem dX13_init_120 : decode cX13_init 120 = .ok (.iastore, 1) := by decide +kernel
theorem dX13_init_121 : decode cX13_init 121 = .ok (.dup, 1) := by decide +kernel
theorem dX13_init_122 : decode cX13_init 122 = .ok (.iconst 1, 1) := by decide +kernel
theorem dX13_init_123 : decode cX13_init 123 = .ok (.iconst (-1), 1) := by decide +kernel
theorem dX13_init_124 : decode cX13_init 124 = .ok (.iastore, 1) := by decide +kernel
theorem dX13_init_125 : decode cX13_init 125 = .ok (.dup, 1) := by decide +kernel
theorem dX13_init_126 : decode cX13_init 126 = .ok (.iconst 2, 1) := by decide +kernel
theorem dX13_init_127 : decode cX13_init 127 = .ok (.iconst (-1), 1) := by decide +kernel
theorem dX13_init_128 : decode cX13_init 128 = .ok (.iastore, 1) := by decide +kernel
theorem dX13_init_129 : decode cX13_init 129 = .ok (.dup, 1) := by decide +kernel
theorem dX13_init_130 : decode cX13_init 130 = .ok (.iconst 3, 1) := by decide +kernel
theorem dX13_init_131 : decode cX13_init 131 = .ok (.iconst 0, 1) := by decide +kernel
theorem dX13_init_132 : decode cX13_init 132 = .ok (.iastore, 1) := by decide +kernel
theorem dX13_init_133 : decode cX13_init 133 = .ok (.putfield 60, 3) := by decide +kernel
theorem dX13_init_136 : decode cX13_init 136 = .ok (.aload_n 0, 1) := by decide +kernel
theorem dX13_init_137 : decode cX13_init 137 = .ok (.bipush 6, 2) := by decide +kernel
theorem dX13_init_139 : decode cX13_init 139 = .ok (.newarray .int, 2) := by decide +kernel
theorem dX13_init_141 : decode cX13_init 141 = .ok (.putfield 63, 3) := by decide +kernel
theorem dX13_init_144 : decode cX13_init 144 = .ok (.aload_n 0, 1) := by decide +kernel
theorem dX13_init_145 : decode cX13_init 145 = .ok (.bipush 6, 2) := by decide +kernel
theorem dX13_init_147 : decode cX13_init 147 = .ok (.newarray .int, 2) := by decide +kernel
theorem dX13_init_149 : decode cX13_init 149 = .ok (.putfield 66, 3) := by decide +kernel
theorem dX13_init_152 : decode cX13_init 152 = .ok (.aload_n 0, 1) := by decide +kernel
theorem dX13_init_153 : decode cX13_init 153 = .ok (.sipush 2880, 3) := by decide +kernel
theorem dX13_init_156 : decode cX13_init 156 = .ok (.newarray .boolean, 2) := by decide +kernel
theorem dX13_init_158 : decode cX13_init 158 = .ok (.putfield 69, 3) := by decide +kernel
theorem dX13_init_161 : decode cX13_init 161 = .ok (.aload_n 0, 1) := by decide +kernel
theorem dX13_init_162 : decode cX13_init 162 = .ok (.sipush 160, 3) := by decide +kernel
theorem dX13_init_165 : decode cX13_init 165 = .ok (.newarray .int, 2) := by decide +kernel
theorem dX13_init_167 : decode cX13_init 167 = .ok (.putfield 72, 3) := by decide +kernel
theorem dX13_init_170 : decode cX13_init 170 = .ok (.aload_n 0, 1) := by decide +kernel
theorem dX13_init_171 : decode cX13_init 171 = .ok (.bipush 12, 2) := by decide +kernel
theorem dX13_init_173 : decode cX13_init 173 = .ok (.newarray .int, 2) := by decide +kernel
theorem dX13_init_175 : decode cX13_init 175 = .ok (.putfield 75, 3) := by decide +kernel
theorem dX13_init_178 : decode cX13_init 178 = .ok (.aload_n 0, 1) := by decide +kernel
theorem dX13_init_179 : decode cX13_init 179 = .ok (.bipush 12, 2) := by decide +kernel
theorem dX13_init_181 : decode cX13_init 181 = .ok (.newarray .int, 2) := by decide +kernel
theorem dX13_init_183 : decode cX13_init 183 = .ok (.putfield 78, 3) := by decide +kernel
theorem dX13_init_186 : decode cX13_init 186 = .ok (.aload_n 0, 1) := by decide +kernel
theorem dX13_init_187 : decode cX13_init 187 = .ok (.bipush 12, 2) := by decide +kernel
theorem dX13_init_189 : decode cX13_init 189 = .ok (.newarray .int, 2) := by decide +kernel
theorem dX13_init_191 : decode cX13_init 191 = .ok (.putfield 81, 3) := by decide +kernel
theorem dX13_init_194 : decode cX13_init 194 = .ok (.aload_n 0, 1) := by decide +kernel
theorem dX13_init_195 : decode cX13_init 195 = .ok (.bipush 12, 2) := by decide +kernel
theorem dX13_init_197 : decode cX13_init 197 = .ok (.newarray .int, 2) := by decide +kernel
theorem dX13_init_199 : decode cX13_init 199 = .ok (.putfield 84, 3) := by decide +kernel
theorem dX13_init_202 : decode cX13_init 202 = .ok (.aload_n 0, 1) := by decide +kernel
theorem dX13_init_203 : decode cX13_init 203 = .ok (.bipush 12, 2) := by decide +kernel
theorem dX13_init_205 : decode cX13_init 205 = .ok (.newarray .int, 2) := by decide +kernel
theorem dX13_init_207 : decode cX13_init 207 = .ok (.putfield 87, 3) := by decide +kernel
theorem dX13_init_210 : decode cX13_init 210 = .ok (.aload_n 0, 1) := by decide +kernel
theorem dX13_init_211 : decode cX13_init 211 = .ok (.bipush 72, 2) := by decide +kernel
theorem dX13_init_213 : decode cX13_init 213 = .ok (.newarray .boolean, 2) := by decide +kernel
theorem dX13_init_215 : decode cX13_init 215 = .ok (.putfield 90, 3) := by decide +kernel
theorem dX13_init_218 : decode cX13_init 218 = .ok (.aload_n 0, 1) := by decide +kernel
theorem dX13_init_219 : decode cX13_init 219 = .ok (.bipush 60, 2) := by decide +kernel
theorem dX13_init_221 : decode cX13_init 221 = .ok (.newarray .int, 2) := by decide +kernel
theorem dX13_init_223 : decode cX13_init 223 = .ok (.putfield 93, 3) := by decide +kernel
theorem dX13_init_226 : decode cX13_init 226 = .ok (.aload_n 0, 1) := by decide +kernel
theorem dX13_init_227 : decode cX13_init 227 = .ok (.bipush 72, 2) := by decide +kernel
theorem dX13_init_229 : decode cX13_init 229 = .ok (.newarray .boolean, 2) := by decide +kernel
theorem dX13_init_231 : decode cX13_init 231 = .ok (.putfield 96, 3) := by decide +kernel
theorem dX13_init_234 : decode cX13_init 234 = .ok (.aload_n 0, 1) := by decide +kernel
theorem dX13_init_235 : decode cX13_init 235 = .ok (.iconst 4, 1) := by decide +kernel
theorem dX13_init_236 : decode cX13_init 236 = .ok (.newarray .int, 2) := by decide +kernel
theorem dX13_init_238 : decode cX13_init 238 = .ok (.putfield 99, 3) := by decide +kernel
theorem dX13_init_241 : decode cX13_init 241 = .ok (.return_, 1) := by decide +kernel
theorem dX13_thrown_0 : decode cX13_thrown 0 = .ok (.aload_n 0, 1) := by decide +kernel
theorem dX13_thrown_1 : decode cX13_thrown 1 = .ok (.getfield 102, 3) := by decide +kernel
theorem dX13_thrown_4 : decode cX13_thrown 4 = .ok (.ireturn, 1) := by decide +kernel
theorem dX13_isIn_0 : decode cX13_isIn 0 = .ok (.lload_n 0, 1) := by decide +kernel
theorem dX13_isIn_1 : decode cX13_isIn 1 = .ok (.lload_n 2, 1) := by decide +kernel
theorem dX13_isIn_2 : decode cX13_isIn 2 = .ok (.lcmp, 1) := by decide +kernel
theorem dX13_isIn_3 : decode cX13_isIn 3 = .ok (.ifCond .lt 14, 3) := by decide +kernel
theorem dX13_isIn_6 : decode cX13_isIn 6 = .ok (.lload_n 0, 1) := by decide +kernel
theorem dX13_isIn_7 : decode cX13_isIn 7 = .ok (.lload 4, 2) := by decide +kernel
theorem dX13_isIn_9 : decode cX13_isIn 9 = .ok (.lcmp, 1) := by decide +kernel
theorem dX13_isIn_10 : decode cX13_isIn 10 = .ok (.ifCond .gt 7, 3) := by decide +kernel
theorem dX13_isIn_13 : decode cX13_isIn 13 = .ok (.iconst 1, 1) := by decide +kernel
theorem dX13_isIn_14 : decode cX13_isIn 14 = .ok (.goto 4, 3) := by decide +kernel
theorem dX13_isIn_17 : decode cX13_isIn 17 = .ok (.iconst 0, 1) := by decide +kernel
theorem dX13_isIn_18 : decode cX13_isIn 18 = .ok (.ireturn, 1) := by decide +kernel
theorem dX13_has_0 : decode cX13_has 0 = .ok (.iload_n 0, 1) := by decide +kernel
theorem dX13_has_1 : decode cX13_has 1 = .ok (.iload_n 1, 1) := by decide +kernel
theorem dX13_has_2 : decode cX13_has 2 = .ok (.ishr, 1) := by decide +kernel
theorem dX13_has_3 : decode cX13_has 3 = .ok (.iconst 1, 1) := by decide +kernel
theorem dX13_has_4 : decode cX13_has 4 = .ok (.iand, 1) := by decide +kernel
theorem dX13_has_5 : decode cX13_has 5 = .ok (.iconst 1, 1) := by decide +kernel
theorem dX13_has_6 : decode cX13_has 6 = .ok (.if_icmp .ne 7, 3) := by decide +kernel
theorem dX13_has_9 : decode cX13_has 9 = .ok (.iconst 1, 1) := by decide +kernel
theorem dX13_has_10 : decode cX13_has 10 = .ok (.goto 4, 3) := by decide +kernel
theorem dX13_has_13 : decode cX13_has 13 = .ok (.iconst 0, 1) := by decide +kernel
theorem dX13_has_14 : decode cX13_has 14 = .ok (.ireturn, 1) := by decide +kernel
theorem dX13_isAmong_0 : decode cX13_isAmong 0 = .ok (.iconst 0, 1) := by decide +kernel
theorem dX13_isAmong_1 : decode cX13_isAmong 1 = .ok (.istore_n 2, 1) := by decide +kernel
theorem dX13_isAmong_2 : decode cX13_isAmong 2 = .ok (.iload_n 2, 1) := by decide +kernel
theorem dX13_isAmong_3 : decode cX13_isAmong 3 = .ok (.aload_n 0, 1) := by decide +kernel
theorem dX13_isAmong_4 : decode cX13_isAmong 4 = .ok (.invokevirtual 105, 3) := by decide +kernel
theorem dX13_isAmong_7 : decode cX13_isAmong 7 = .ok (.if_icmp .ge 20, 3) := by decide +kernel
theorem dX13_isAmong_10 : decode cX13_isAmong 10 = .ok (.aload_n 0, 1) := by decide +kernel
theorem dX13_isAmong_11 : decode cX13_isAmong 11 = .ok (.iload_n 2, 1) := by decide +kernel
theorem dX13_isAmong_12 : decode cX13_isAmong 12 = .ok (.invokevirtual 111, 3) := by decide +kernel
theorem dX13_isAmong_15 : decode cX13_isAmong 15 = .ok (.iload_n 1, 1) := by decide +kernel
theorem dX13_isAmong_16 : decode cX13_isAmong 16 = .ok (.if_icmp .ne 5, 3) := by decide +kernel
theorem dX13_isAmong_19 : decode cX13_isAmong 19 = .ok (.iconst 1, 1) := by decide +kernel
theorem dX13_isAmong_20 : decode cX13_isAmong 20 = .ok (.ireturn, 1) := by decide +kernel
theorem dX13_isAmong_21 : decode cX13_isAmong 21 = .ok (.iinc 2 1, 3) := by decide +kernel
theorem dX13_isAmong_24 : decode cX13_isAmong 24 = .ok (.goto (-22), 3) := by decide +kernel
theorem dX13_isAmong_27 : decode cX13_isAmong 27 = .ok (.iconst 0, 1) := by decide +kernel
theorem dX13_isAmong_28 : decode cX13_isAmong 28 = .ok (.ireturn, 1) := by decide +kernel
theorem dX13_bytesIn_0 : decode cX13_bytesIn 0 = .ok (.iconst 0, 1) := by decide +kernel
theorem dX13_bytesIn_1 : decode cX13_bytesIn 1 = .ok (.istore_n 1, 1) := by decide +kernel
theorem dX13_bytesIn_2 : decode cX13_bytesIn 2 = .ok (.bipush 24, 2) := by decide +kernel
theorem dX13_bytesIn_4 : decode cX13_bytesIn 4 = .ok (.istore_n 2, 1) := by decide +kernel
theorem dX13_bytesIn_5 : decode cX13_bytesIn 5 = .ok (.iload_n 2, 1) := by decide +kernel
theorem dX13_bytesIn_6 : decode cX13_bytesIn 6 = .ok (.ifCond .lt 27, 3) := by decide +kernel
theorem dX13_bytesIn_9 : decode cX13_bytesIn 9 = .ok (.iload_n 1, 1) := by decide +kernel
theorem dX13_bytesIn_10 : decode cX13_bytesIn 10 = .ok (.iload_n 0, 1) := by decide +kernel
theorem dX13_bytesIn_11 : decode cX13_bytesIn 11 = .ok (.iload_n 2, 1) := by decide +kernel
theorem dX13_bytesIn_12 : decode cX13_bytesIn 12 = .ok (.ishr, 1) := by decide +kernel
theorem dX13_bytesIn_13 : decode cX13_bytesIn 13 = .ok (.sipush 255, 3) := by decide +kernel
theorem dX13_bytesIn_16 : decode cX13_bytesIn 16 = .ok (.iand, 1) := by decide +kernel
theorem dX13_bytesIn_17 : decode cX13_bytesIn 17 = .ok (.ifCond .eq 7, 3) := by decide +kernel
theorem dX13_bytesIn_20 : decode cX13_bytesIn 20 = .ok (.iconst 1, 1) := by decide +kernel
theorem dX13_bytesIn_21 : decode cX13_bytesIn 21 = .ok (.goto 4, 3) := by decide +kernel
theorem dX13_bytesIn_24 : decode cX13_bytesIn 24 = .ok (.iconst 0, 1) := by decide +kernel
theorem dX13_bytesIn_25 : decode cX13_bytesIn 25 = .ok (.iadd, 1) := by decide +kernel
theorem dX13_bytesIn_26 : decode cX13_bytesIn 26 = .ok (.istore_n 1, 1) := by decide +kernel
theorem dX13_bytesIn_27 : decode cX13_bytesIn 27 = .ok (.iinc 2 (-8), 3) := by decide +kernel
theorem dX13_bytesIn_30 : decode cX13_bytesIn 30 = .ok (.goto (-25), 3) := by decide +kernel
theorem dX13_bytesIn_33 : decode cX13_bytesIn 33 = .ok (.iload_n 1, 1) := by decide +kernel
theorem dX13_bytesIn_34 : decode cX13_bytesIn 34 = .ok (.ireturn, 1) := by decide +kernel
theorem dX13_put_0 : decode cX13_put 0 = .ok (.bipush 24, 2) := by decide +kernel
theorem dX13_put_2 : decode cX13_put 2 = .ok (.istore_n 2, 1) := by decide +kernel
theorem dX13_put_3 : decode cX13_put 3 = .ok (.iload_n 2, 1) := by decide +kernel
theorem dX13_put_4 : decode cX13_put 4 = .ok (.ifCond .lt 45, 3) := by decide +kernel
theorem dX13_put_7 : decode cX13_put 7 = .ok (.iload_n 1, 1) := by decide +kernel
theorem dX13_put_8 : decode cX13_put 8 = .ok (.iload_n 2, 1) := by decide +kernel
theorem dX13_put_9 : decode cX13_put 9 = .ok (.ishr, 1) := by decide +kernel
theorem dX13_put_10 : decode cX13_put 10 = .ok (.sipush 255, 3) := by decide +kernel
theorem dX13_put_13 : decode cX13_put 13 = .ok (.iand, 1) := by decide +kernel
theorem dX13_put_14 : decode cX13_put 14 = .ok (.ifCond .ne 6, 3) := by decide +kernel
theorem dX13_put_17 : decode cX13_put 17 = .ok (.goto 26, 3) := by decide +kernel
theorem dX13_put_20 : decode cX13_put 20 = .ok (.aload_n 0, 1) := by decide +kernel
theorem dX13_put_21 : decode cX13_put 21 = .ok (.getfield 9, 3) := by decide +kernel
theorem dX13_put_24 : decode cX13_put 24 = .ok (.aload_n 0, 1) := by decide +kernel
theorem dX13_put_25 : decode cX13_put 25 = .ok (.getfield 115, 3) := by decide +kernel
theorem dX13_put_28 : decode cX13_put 28 = .ok (.iload_n 1, 1) := by decide +kernel
theorem dX13_put_29 : decode cX13_put 29 = .ok (.iload_n 2, 1) := by decide +kernel
theorem dX13_put_30 : decode cX13_put 30 = .ok (.ishr, 1) := by decide +kernel
theorem dX13_put_31 : decode cX13_put 31 = .ok (.i2b, 1) := by decide +kernel
theorem dX13_put_32 : decode cX13_put 32 = .ok (.bastore, 1) := by decide +kernel
theorem dX13_put_33 : decode cX13_put 33 = .ok (.aload_n 0, 1) := by decide +kernel
theorem dX13_put_34 : decode cX13_put 34 = .ok (.dup, 1) := by decide +kernel
theorem dX13_put_35 : decode cX13_put 35 = .ok (.getfield 115, 3) := by decide +kernel
theorem dX13_put_38 : decode cX13_put 38 = .ok (.iconst 1, 1) := by decide +kernel
theorem dX13_put_39 : decode cX13_put 39 = .ok (.iadd, 1) := by decide +kernel
theorem dX13_put_40 : decode cX13_put 40 = .ok (.putfield 115, 3) := by decide +kernel
theorem dX13_put_43 : decode cX13_put 43 = .ok (.iinc 2 (-8), 3) := by decide +kernel
theorem dX13_put_46 : decode cX13_put 46 = .ok (.goto (-43), 3) := by decide +kernel
theorem dX13_put_49 : decode cX13_put 49 = .ok (.return_, 1) := by decide +kernel
theorem dX13_feed_0 : decode cX13_feed 0 = .ok (.aload_n 0, 1) := by decide +kernel
theorem dX13_feed_1 : decode cX13_feed 1 = .ok (.iconst 0, 1) := by decide +kernel
theorem dX13_feed_2 : decode cX13_feed 2 = .ok (.putfield 102, 3) := by decide +kernel
theorem dX13_feed_5 : decode cX13_feed 5 = .ok (.aload_n 0, 1) := by decide +kernel
theorem dX13_feed_6 : decode cX13_feed 6 = .ok (.getfield 115, 3) := by decide +kernel
theorem dX13_feed_9 : decode cX13_feed 9 = .ok (.iload_n 1, 1) := by decide +kernel
theorem dX13_feed_10 : decode cX13_feed 10 = .ok (.invokestatic 117, 3) := by decide +kernel
theorem dX13_feed_13 : decode cX13_feed 13 = .ok (.iadd, 1) := by decide +kernel
theorem dX13_feed_14 : decode cX13_feed 14 = .ok (.iload_n 2, 1) := by decide +kernel
theorem dX13_feed_15 : decode cX13_feed 15 = .ok (.invokestatic 117, 3) := by decide +kernel
theorem dX13_feed_18 : decode cX13_feed 18 = .ok (.iadd, 1) := by decide +kernel
theorem dX13_feed_19 : decode cX13_feed 19 = .ok (.iload_n 3, 1) := by decide +kernel
theorem dX13_feed_20 : decode cX13_feed 20 = .ok (.invokestatic 117, 3) := by decide +kernel
theorem dX13_feed_23 : decode cX13_feed 23 = .ok (.iadd, 1) := by decide +kernel
theorem dX13_feed_24 : decode cX13_feed 24 = .ok (.iload 4, 2) := by decide +kernel
theorem dX13_feed_26 : decode cX13_feed 26 = .ok (.invokestatic 117, 3) := by decide +kernel
theorem dX13_feed_29 : decode cX13_feed 29 = .ok (.iadd, 1) := by decide +kernel
theorem dX13_feed_30 : decode cX13_feed 30 = .ok (.iload 5, 2) := by decide +kernel
theorem dX13_feed_32 : decode cX13_feed 32 = .ok (.invokestatic 117, 3) := by decide +kernel
theorem dX13_feed_35 : decode cX13_feed 35 = .ok (.iadd, 1) := by decide +kernel
theorem dX13_feed_36 : decode cX13_feed 36 = .ok (.sipush 240, 3) := by decide +kernel
theorem dX13_feed_39 : decode cX13_feed 39 = .ok (.if_icmp .le 5, 3) := by decide +kernel
theorem dX13_feed_42 : decode cX13_feed 42 = .ok (.iconst (-1), 1) := by decide +kernel
theorem dX13_feed_43 : decode cX13_feed 43 = .ok (.ireturn, 1) := by decide +kernel
theorem dX13_feed_44 : decode cX13_feed 44 = .ok (.aload_n 0, 1) := by decide +kernel
theorem dX13_feed_45 : decode cX13_feed 45 = .ok (.iload_n 1, 1) := by decide +kernel
theorem dX13_feed_46 : decode cX13_feed 46 = .ok (.invokevirtual 121, 3) := by decide +kernel
theorem dX13_feed_49 : decode cX13_feed 49 = .ok (.aload_n 0, 1) := by decide +kernel
theorem dX13_feed_50 : decode cX13_feed 50 = .ok (.iload_n 2, 1) := by decide +kernel
theorem dX13_feed_51 : decode cX13_feed 51 = .ok (.invokevirtual 121, 3) := by decide +kernel
theorem dX13_feed_54 : decode cX13_feed 54 = .ok (.aload_n 0, 1) := by decide +kernel
theorem dX13_feed_55 : decode cX13_feed 55 = .ok (.iload_n 3, 1) := by decide +kernel
theorem dX13_feed_56 : decode cX13_feed 56 = .ok (.invokevirtual 121, 3) := by decide +kernel
theorem dX13_feed_59 : decode cX13_feed 59 = .ok (.aload_n 0, 1) := by decide +kernel
theorem dX13_feed_60 : decode cX13_feed 60 = .ok (.iload 4, 2) := by decide +kernel
theorem dX13_feed_62 : decode cX13_feed 62 = .ok (.invokevirtual 121, 3) := by decide +kernel
theorem dX13_feed_65 : decode cX13_feed 65 = .ok (.aload_n 0, 1) := by decide +kernel
theorem dX13_feed_66 : decode cX13_feed 66 = .ok (.iload 5, 2) := by decide +kernel
theorem dX13_feed_68 : decode cX13_feed 68 = .ok (.invokevirtual 121, 3) := by decide +kernel
theorem dX13_feed_71 : decode cX13_feed 71 = .ok (.aload_n 0, 1) := by decide +kernel
theorem dX13_feed_72 : decode cX13_feed 72 = .ok (.getfield 115, 3) := by decide +kernel
theorem dX13_feed_75 : decode cX13_feed 75 = .ok (.ireturn, 1) := by decide +kernel
theorem dX13_end_0 : decode cX13_end 0 = .ok (.aload_n 0, 1) := by decide +kernel
theorem dX13_end_1 : decode cX13_end 1 = .ok (.iconst 0, 1) := by decide +kernel
theorem dX13_end_2 : decode cX13_end 2 = .ok (.putfield 102, 3) := by decide +kernel
theorem dX13_end_5 : decode cX13_end 5 = .ok (.iload_n 1, 1) := by decide +kernel
theorem dX13_end_6 : decode cX13_end 6 = .ok (.ifCond .lt 11, 3) := by decide +kernel
theorem dX13_end_9 : decode cX13_end 9 = .ok (.iload_n 1, 1) := by decide +kernel
theorem dX13_end_10 : decode cX13_end 10 = .ok (.aload_n 0, 1) := by decide +kernel
theorem dX13_end_11 : decode cX13_end 11 = .ok (.getfield 115, 3) := by decide +kernel
theorem dX13_end_14 : decode cX13_end 14 = .ok (.if_icmp .le 5, 3) := by decide +kernel
theorem dX13_end_17 : decode cX13_end 17 = .ok (.iconst 0, 1) := by decide +kernel
theorem dX13_end_18 : decode cX13_end 18 = .ok (.ireturn, 1) := by decide +kernel
theorem dX13_end_19 : decode cX13_end 19 = .ok (.aload_n 0, 1) := by decide +kernel
theorem dX13_end_20 : decode cX13_end 20 = .ok (.iload_n 1, 1) := by decide +kernel
theorem dX13_end_21 : decode cX13_end 21 = .ok (.putfield 115, 3) := by decide +kernel
theorem dX13_end_24 : decode cX13_end 24 = .ok (.iconst 1, 1) := by decide +kernel
theorem dX13_end_25 : decode cX13_end 25 = .ok (.ireturn, 1) := by decide +kernel
theorem dX13_look_0 : decode cX13_look 0 = .ok (.aload_n 0, 1) := by decide +kernel
theorem dX13_look_1 : decode cX13_look 1 = .ok (.getfield 125, 3) := by decide +kernel
theorem dX13_look_4 : decode cX13_look 4 = .ok (.aload_n 0, 1) := by decide +kernel
theorem dX13_look_5 : decode cX13_look 5 = .ok (.getfield 128, 3) := by decide +kernel
theorem dX13_look_8 : decode cX13_look 8 = .ok (.if_icmp .ge 35, 3) := by decide +kernel
theorem dX13_look_11 : decode cX13_look 11 = .ok (.aload_n 0, 1) := by decide +kernel
theorem dX13_look_12 : decode cX13_look 12 = .ok (.getfield 23, 3) := by decide +kernel
theorem dX13_look_15 : decode cX13_look 15 = .ok (.aload_n 0, 1) := by decide +kernel
theorem dX13_look_16 : decode cX13_look 16 = .ok (.getfield 131, 3) := by decide +kernel
theorem dX13_look_19 : decode cX13_look 19 = .ok (.aload_n 0, 1) := by decide +kernel
theorem dX13_look_20 : decode cX13_look 20 = .ok (.getfield 125, 3) := by decide +kernel
theorem dX13_look_23 : decode cX13_look 23 = .ok (.iadd, 1) := by decide +kernel
theorem dX13_look_24 : decode cX13_look 24 = .ok (.baload, 1) := by decide +kernel
theorem dX13_look_25 : decode cX13_look 25 = .ok (.bipush 32, 2) := by decide +kernel
theorem dX13_look_27 : decode cX13_look 27 = .ok (.if_icmp .ne 16, 3) := by decide +kernel
theorem dX13_look_30 : decode cX13_look 30 = .ok (.aload_n 0, 1) := by decide +kernel
theorem dX13_look_31 : decode cX13_look 31 = .ok (.dup, 1) := by decide +kernel
theorem dX13_look_32 : decode cX13_look 32 = .ok (.getfield 125, 3) := by decide +kernel
theorem dX13_look_35 : decode cX13_look 35 = .ok (.iconst 1, 1) := by decide +kernel
theorem dX13_look_36 : decode cX13_look 36 = .ok (.iadd, 1) := by decide +kernel
theorem dX13_look_37 : decode cX13_look 37 = .ok (.putfield 125, 3) := by decide +kernel
theorem dX13_look_40 : decode cX13_look 40 = .ok (.goto (-40), 3) := by decide +kernel
theorem dX13_look_43 : decode cX13_look 43 = .ok (.aload_n 0, 1) := by decide +kernel
theorem dX13_look_44 : decode cX13_look 44 = .ok (.getfield 125, 3) := by decide +kernel
theorem dX13_look_47 : decode cX13_look 47 = .ok (.aload_n 0, 1) := by decide +kernel
theorem dX13_look_48 : decode cX13_look 48 = .ok (.getfield 128, 3) := by decide +kernel
theorem dX13_look_51 : decode cX13_look 51 = .ok (.if_icmp .ge 24, 3) := by decide +kernel
theorem dX13_look_54 : decode cX13_look 54 = .ok (.aload_n 0, 1) := by decide +kernel
theorem dX13_look_55 : decode cX13_look 55 = .ok (.getfield 23, 3) := by decide +kernel
theorem dX13_look_58 : decode cX13_look 58 = .ok (.aload_n 0, 1) := by decide +kernel
theorem dX13_look_59 : decode cX13_look 59 = .ok (.getfield 131, 3) := by decide +kernel
theorem dX13_look_62 : decode cX13_look 62 = .ok (.aload_n 0, 1) := by decide +kernel
theorem dX13_look_63 : decode cX13_look 63 = .ok (.getfield 125, 3) := by decide +kernel
theorem dX13_look_66 : decode cX13_look 66 = .ok (.iadd, 1) := by decide +kernel
theorem dX13_look_67 : decode cX13_look 67 = .ok (.baload, 1) := by decide +kernel
theorem dX13_look_68 : decode cX13_look 68 = .ok (.sipush 255, 3) := by decide +kernel
theorem dX13_look_71 : decode cX13_look 71 = .ok (.iand, 1) := by decide +kernel
theorem dX13_look_72 : decode cX13_look 72 = .ok (.goto 4, 3) := by decide +kernel
theorem dX13_look_75 : decode cX13_look 75 = .ok (.iconst (-1), 1) := by decide +kernel
theorem dX13_look_76 : decode cX13_look 76 = .ok (.ireturn, 1) := by decide +kernel
theorem dX13_fails_0 : decode cX13_fails 0 = .ok (.aload_n 0, 1) := by decide +kernel
theorem dX13_fails_1 : decode cX13_fails 1 = .ok (.getfield 134, 3) := by decide +kernel
theorem dX13_fails_4 : decode cX13_fails 4 = .ok (.iconst (-1), 1) := by decide +kernel
theorem dX13_fails_5 : decode cX13_fails 5 = .ok (.if_icmp .ne 11, 3) := by decide +kernel
theorem dX13_fails_8 : decode cX13_fails 8 = .ok (.aload_n 0, 1) := by decide +kernel
theorem dX13_fails_9 : decode cX13_fails 9 = .ok (.aload_n 0, 1) := by decide +kernel
theorem dX13_fails_10 : decode cX13_fails 10 = .ok (.getfield 125, 3) := by decide +kernel
theorem dX13_fails_13 : decode cX13_fails 13 = .ok (.putfield 134, 3) := by decide +kernel
theorem dX13_fails_16 : decode cX13_fails 16 = .ok (.iconst 0, 1) := by decide +kernel
theorem dX13_fails_17 : decode cX13_fails 17 = .ok (.ireturn, 1) := by decide +kernel
theorem dX13_goesIn_0 : decode cX13_goesIn 0 = .ok (.aload_n 0, 1) := by decide +kernel
theorem dX13_goesIn_1 : decode cX13_goesIn 1 = .ok (.getfield 137, 3) := by decide +kernel
theorem dX13_goesIn_4 : decode cX13_goesIn 4 = .ok (.bipush 6, 2) := by decide +kernel
theorem dX13_goesIn_6 : decode cX13_goesIn 6 = .ok (.if_icmp .ne 8, 3) := by decide +kernel
theorem dX13_goesIn_9 : decode cX13_goesIn 9 = .ok (.aload_n 0, 1) := by decide +kernel
theorem dX13_goesIn_10 : decode cX13_goesIn 10 = .ok (.invokevirtual 140, 3) := by decide +kernel
theorem dX13_goesIn_13 : decode cX13_goesIn 13 = .ok (.ireturn, 1) := by decide +kernel
theorem dX13_goesIn_14 : decode cX13_goesIn 14 = .ok (.aload_n 0, 1) := by decide +kernel
theorem dX13_goesIn_15 : decode cX13_goesIn 15 = .ok (.dup, 1) := by decide +kernel
theorem dX13_goesIn_16 : decode cX13_goesIn 16 = .ok (.getfield 137, 3) := by decide +kernel
theorem dX13_goesIn_19 : decode cX13_goesIn 19 = .ok (.iconst 1, 1) := by decide +kernel
theorem dX13_goesIn_20 : decode cX13_goesIn 20 = .ok (.iadd, 1) := by decide +kernel
theorem dX13_goesIn_21 : decode cX13_goesIn 21 = .ok (.putfield 137, 3) := by decide +kernel
theorem dX13_goesIn_24 : decode cX13_goesIn 24 = .ok (.aload_n 0, 1) := by decide +kernel
theorem dX13_goesIn_25 : decode cX13_goesIn 25 = .ok (.dup, 1) := by decide +kernel
theorem dX13_goesIn_26 : decode cX13_goesIn 26 = .ok (.getfield 125, 3) := by decide +kernel
theorem dX13_goesIn_29 : decode cX13_goesIn 29 = .ok (.iconst 1, 1) := by decide +kernel
theorem dX13_goesIn_30 : decode cX13_goesIn 30 = .ok (.iadd, 1) := by decide +kernel
theorem dX13_goesIn_31 : decode cX13_goesIn 31 = .ok (.putfield 125, 3) := by decide +kernel
theorem dX13_goesIn_34 : decode cX13_goesIn 34 = .ok (.iconst 1, 1) := by decide +kernel
theorem dX13_goesIn_35 : decode cX13_goesIn 35 = .ok (.ireturn, 1) := by decide +kernel
theorem dX13_takes_0 : decode cX13_takes 0 = .ok (.aload_n 0, 1) := by decide +kernel
theorem dX13_takes_1 : decode cX13_takes 1 = .ok (.getfield 134, 3) := by decide +kernel
theorem dX13_takes_4 : decode cX13_takes 4 = .ok (.iconst (-1), 1) := by decide +kernel
theorem dX13_takes_5 : decode cX13_takes 5 = .ok (.if_icmp .ne 11, 3) := by decide +kernel
theorem dX13_takes_8 : decode cX13_takes 8 = .ok (.aload_n 0, 1) := by decide +kernel
theorem dX13_takes_9 : decode cX13_takes 9 = .ok (.invokevirtual 144, 3) := by decide +kernel
theorem dX13_takes_12 : decode cX13_takes 12 = .ok (.iload_n 1, 1) := by decide +kernel
theorem dX13_takes_13 : decode cX13_takes 13 = .ok (.if_icmp .eq 8, 3) := by decide +kernel
theorem dX13_takes_16 : decode cX13_takes 16 = .ok (.aload_n 0, 1) := by decide +kernel
theorem dX13_takes_17 : decode cX13_takes 17 = .ok (.invokevirtual 140, 3) := by decide +kernel
theorem dX13_takes_20 : decode cX13_takes 20 = .ok (.ireturn, 1) := by decide +kernel
theorem dX13_takes_21 : decode cX13_takes 21 = .ok (.aload_n 0, 1) := by decide +kernel
theorem dX13_takes_22 : decode cX13_takes 22 = .ok (.dup, 1) := by decide +kernel
theorem dX13_takes_23 : decode cX13_takes 23 = .ok (.getfield 125, 3) := by decide +kernel
theorem dX13_takes_26 : decode cX13_takes 26 = .ok (.iconst 1, 1) := by decide +kernel
theorem dX13_takes_27 : decode cX13_takes 27 = .ok (.iadd, 1) := by decide +kernel
theorem dX13_takes_28 : decode cX13_takes 28 = .ok (.putfield 125, 3) := by decide +kernel
theorem dX13_takes_31 : decode cX13_takes 31 = .ok (.iconst 1, 1) := by decide +kernel
theorem dX13_takes_32 : decode cX13_takes 32 = .ok (.ireturn, 1) := by decide +kernel
theorem dX13_isDigit_0 : decode cX13_isDigit 0 = .ok (.aload_n 0, 1) := by decide +kernel
theorem dX13_isDigit_1 : decode cX13_isDigit 1 = .ok (.getfield 125, 3) := by decide +kernel
theorem dX13_isDigit_4 : decode cX13_isDigit 4 = .ok (.aload_n 0, 1) := by decide +kernel
theorem dX13_isDigit_5 : decode cX13_isDigit 5 = .ok (.getfield 128, 3) := by decide +kernel
theorem dX13_isDigit_8 : decode cX13_isDigit 8 = .ok (.if_icmp .ge 45, 3) := by decide +kernel
theorem dX13_isDigit_11 : decode cX13_isDigit 11 = .ok (.aload_n 0, 1) := by decide +kernel
theorem dX13_isDigit_12 : decode cX13_isDigit 12 = .ok (.getfield 23, 3) := by decide +kernel
theorem dX13_isDigit_15 : decode cX13_isDigit 15 = .ok (.aload_n 0, 1) := by decide +kernel
theorem dX13_isDigit_16 : decode cX13_isDigit 16 = .ok (.getfield 131, 3) := by decide +kernel
theorem dX13_isDigit_19 : decode cX13_isDigit 19 = .ok (.aload_n 0, 1) := by decide +kernel
theorem dX13_isDigit_20 : decode cX13_isDigit 20 = .ok (.getfield 125, 3) := by decide +kernel
theorem dX13_isDigit_23 : decode cX13_isDigit 23 = .ok (.iadd, 1) := by decide +kernel
theorem dX13_isDigit_24 : decode cX13_isDigit 24 = .ok (.baload, 1) := by decide +kernel
theorem dX13_isDigit_25 : decode cX13_isDigit 25 = .ok (.bipush 48, 2) := by decide +kernel
theorem dX13_isDigit_27 : decode cX13_isDigit 27 = .ok (.if_icmp .lt 26, 3) := by decide +kernel
theorem dX13_isDigit_30 : decode cX13_isDigit 30 = .ok (.aload_n 0, 1) := by decide +kernel
theorem dX13_isDigit_31 : decode cX13_isDigit 31 = .ok (.getfield 23, 3) := by decide +kernel
theorem dX13_isDigit_34 : decode cX13_isDigit 34 = .ok (.aload_n 0, 1) := by decide +kernel
theorem dX13_isDigit_35 : decode cX13_isDigit 35 = .ok (.getfield 131, 3) := by decide +kernel
theorem dX13_isDigit_38 : decode cX13_isDigit 38 = .ok (.aload_n 0, 1) := by decide +kernel
theorem dX13_isDigit_39 : decode cX13_isDigit 39 = .ok (.getfield 125, 3) := by decide +kernel
theorem dX13_isDigit_42 : decode cX13_isDigit 42 = .ok (.iadd, 1) := by decide +kernel
theorem dX13_isDigit_43 : decode cX13_isDigit 43 = .ok (.baload, 1) := by decide +kernel
theorem dX13_isDigit_44 : decode cX13_isDigit 44 = .ok (.bipush 57, 2) := by decide +kernel
theorem dX13_isDigit_46 : decode cX13_isDigit 46 = .ok (.if_icmp .gt 7, 3) := by decide +kernel
theorem dX13_isDigit_49 : decode cX13_isDigit 49 = .ok (.iconst 1, 1) := by decide +kernel
theorem dX13_isDigit_50 : decode cX13_isDigit 50 = .ok (.goto 4, 3) := by decide +kernel
theorem dX13_isDigit_53 : decode cX13_isDigit 53 = .ok (.iconst 0, 1) := by decide +kernel
theorem dX13_isDigit_54 : decode cX13_isDigit 54 = .ok (.ireturn, 1) := by decide +kernel
theorem dX13_within_0 : decode cX13_within 0 = .ok (.ldc2_w 147, 3) := by decide +kernel
theorem dX13_within_3 : decode cX13_within 3 = .ok (.ldc2_w 149, 3) := by decide +kernel
theorem dX13_within_6 : decode cX13_within 6 = .ok (.lload_n 0, 1) := by decide +kernel
theorem dX13_within_7 : decode cX13_within 7 = .ok (.invokestatic 151, 3) := by decide +kernel
theorem dX13_within_10 : decode cX13_within 10 = .ok (.invokestatic 157, 3) := by decide +kernel
theorem dX13_within_13 : decode cX13_within 13 = .ok (.l2i, 1) := by decide +kernel
theorem dX13_within_14 : decode cX13_within 14 = .ok (.ireturn, 1) := by decide +kernel
theorem dX13_atom_0 : decode cX13_atom 0 = .ok (.aload_n 0, 1) := by decide +kernel
theorem dX13_atom_1 : decode cX13_atom 1 = .ok (.invokevirtual 144, 3) := by decide +kernel
theorem dX13_atom_4 : decode cX13_atom 4 = .ok (.istore_n 1, 1) := by decide +kernel
theorem dX13_atom_5 : decode cX13_atom 5 = .ok (.ldc 32, 2) := by decide +kernel
theorem dX13_atom_7 : decode cX13_atom 7 = .ok (.iload_n 1, 1) := by decide +kernel
theorem dX13_atom_8 : decode cX13_atom 8 = .ok (.invokestatic 160, 3) := by decide +kernel
theorem dX13_atom_11 : decode cX13_atom 11 = .ok (.ifCond .eq 20, 3) := by decide +kernel
theorem dX13_atom_14 : decode cX13_atom 14 = .ok (.aload_n 0, 1) := by decide +kernel
theorem dX13_atom_15 : decode cX13_atom 15 = .ok (.dup, 1) := by decide +kernel
theorem dX13_atom_16 : decode cX13_atom 16 = .ok (.getfield 125, 3) := by decide +kernel
theorem dX13_atom_19 : decode cX13_atom 19 = .ok (.iconst 1, 1) := by decide +kernel
theorem dX13_atom_20 : decode cX13_atom 20 = .ok (.iadd, 1) := by decide +kernel
theorem dX13_atom_21 : decode cX13_atom 21 = .ok (.putfield 125, 3) := by decide +kernel
theorem dX13_atom_24 : decode cX13_atom 24 = .ok (.aload_n 0, 1) := by decide +kernel
theorem dX13_atom_25 : decode cX13_atom 25 = .ok (.getfield 20, 3) := by decide +kernel
theorem dX13_atom_28 : decode cX13_atom 28 = .ok (.iload_n 1, 1) := by decide +kernel
theorem dX13_atom_29 : decode cX13_atom 29 = .ok (.iaload, 1) := by decide +kernel
theorem dX13_atom_30 : decode cX13_atom 30 = .ok (.ireturn, 1) := by decide +kernel
theorem dX13_atom_31 : decode cX13_atom 31 = .ok (.iload_n 1, 1) := by decide +kernel
theorem dX13_atom_32 : decode cX13_atom 32 = .ok (.bipush 91, 2) := by decide +kernel
theorem dX13_atom_34 : decode cX13_atom 34 = .ok (.if_icmp .ne 40, 3) := by decide +kernel
theorem dX13_atom_37 : decode cX13_atom 37 = .ok (.aload_n 0, 1) := by decide +kernel
theorem dX13_atom_38 : decode cX13_atom 38 = .ok (.invokevirtual 164, 3) := by decide +kernel
theorem dX13_atom_41 : decode cX13_atom 41 = .ok (.ifCond .ne 5, 3) := by decide +kernel
theorem dX13_atom_44 : decode cX13_atom 44 = .ok (.iconst 0, 1) := by decide +kernel
theorem dX13_atom_45 : decode cX13_atom 45 = .ok (.ireturn, 1) := by decide +kernel
theorem dX13_atom_46 : decode cX13_atom 46 = .ok (.aload_n 0, 1) := by decide +kernel
theorem dX13_atom_47 : decode cX13_atom 47 = .ok (.invokevirtual 167, 3) := by decide +kernel
theorem dX13_atom_50 : decode cX13_atom 50 = .ok (.istore_n 2, 1) := by decide +kernel
theorem dX13_atom_51 : decode cX13_atom 51 = .ok (.aload_n 0, 1) := by decide +kernel
theorem dX13_atom_52 : decode cX13_atom 52 = .ok (.bipush 93, 2) := by decide +kernel
theorem dX13_atom_54 : decode cX13_atom 54 = .ok (.invokevirtual 170, 3) := by decide +kernel
theorem dX13_atom_57 : decode cX13_atom 57 = .ok (.ifCond .ne 5, 3) := by decide +kernel
theorem dX13_atom_60 : decode cX13_atom 60 = .ok (.iconst 0, 1) := by decide +kernel
theorem dX13_atom_61 : decode cX13_atom 61 = .ok (.ireturn, 1) := by decide +kernel
theorem dX13_atom_62 : decode cX13_atom 62 = .ok (.aload_n 0, 1) := by decide +kernel
theorem dX13_atom_63 : decode cX13_atom 63 = .ok (.dup, 1) := by decide +kernel
theorem dX13_atom_64 : decode cX13_atom 64 = .ok (.getfield 137, 3) := by decide +kernel
theorem dX13_atom_67 : decode cX13_atom 67 = .ok (.iconst 1, 1) := by decide +kernel
theorem dX13_atom_68 : decode cX13_atom 68 = .ok (.isub, 1) := by decide +kernel
theorem dX13_atom_69 : decode cX13_atom 69 = .ok (.putfield 137, 3) := by decide +kernel
theorem dX13_atom_72 : decode cX13_atom 72 = .ok (.iload_n 2, 1) := by decide +kernel
theorem dX13_atom_73 : decode cX13_atom 73 = .ok (.ireturn, 1) := by decide +kernel
theorem dX13_atom_74 : decode cX13_atom 74 = .ok (.aload_n 0, 1) := by decide +kernel
theorem dX13_atom_75 : decode cX13_atom 75 = .ok (.invokevirtual 174, 3) := by decide +kernel
theorem dX13_atom_78 : decode cX13_atom 78 = .ok (.ifCond .ne 8, 3) := by decide +kernel
theorem dX13_atom_81 : decode cX13_atom 81 = .ok (.aload_n 0, 1) := by decide +kernel
theorem dX13_atom_82 : decode cX13_atom 82 = .ok (.invokevirtual 140, 3) := by decide +kernel
theorem dX13_atom_85 : decode cX13_atom 85 = .ok (.pop, 1) := by decide +kernel
theorem dX13_atom_86 : decode cX13_atom 86 = .ok (.iconst 0, 1) := by decide +kernel
theorem dX13_atom_87 : decode cX13_atom 87 = .ok (.istore_n 2, 1) := by decide +kernel
theorem dX13_atom_88 : decode cX13_atom 88 = .ok (.iconst 0, 1) := by decide +kernel
theorem dX13_atom_89 : decode cX13_atom 89 = .ok (.istore_n 3, 1) := by decide +kernel
theorem dX13_atom_90 : decode cX13_atom 90 = .ok (.aload_n 0, 1) := by decide +kernel
theorem dX13_atom_91 : decode cX13_atom 91 = .ok (.invokevirtual 174, 3) := by decide +kernel
theorem dX13_atom_94 : decode cX13_atom 94 = .ok (.ifCond .eq 62, 3) := by decide +kernel
theorem dX13_atom_97 : decode cX13_atom 97 = .ok (.aload_n 0, 1) := by decide +kernel
theorem dX13_atom_98 : decode cX13_atom 98 = .ok (.getfield 134, 3) := by decide +kernel
theorem dX13_atom_101 : decode cX13_atom 101 = .ok (.iconst (-1), 1) := by decide +kernel
theorem dX13_atom_102 : decode cX13_atom 102 = .ok (.if_icmp .ne 54, 3) := by decide +kernel
theorem dX13_atom_105 : decode cX13_atom 105 = .ok (.iload_n 3, 1) := by decide +kernel
theorem dX13_atom_106 : decode cX13_atom 106 = .ok (.iconst 4, 1) := by decide +kernel
theorem dX13_atom_107 : decode cX13_atom 107 = .ok (.if_icmp .ne 10, 3) := by decide +kernel
theorem dX13_atom_110 : decode cX13_atom 110 = .ok (.aload_n 0, 1) := by decide +kernel
theorem dX13_atom_111 : decode cX13_atom 111 = .ok (.invokevirtual 140, 3) := by decide +kernel
theorem dX13_atom_114 : decode cX13_atom 114 = .ok (.pop, 1) := by decide +kernel
theorem dX13_atom_115 : decode cX13_atom 115 = .ok (.iconst 0, 1) := by decide +kernel
theorem dX13_atom_116 : decode cX13_atom 116 = .ok (.ireturn, 1) := by decide +kernel
theorem dX13_atom_117 : decode cX13_atom 117 = .ok (.bipush 10, 2) := by decide +kernel
theorem dX13_atom_119 : decode cX13_atom 119 = .ok (.iload_n 2, 1) := by decide +kernel
theorem dX13_atom_120 : decode cX13_atom 120 = .ok (.imul, 1) := by decide +kernel
theorem dX13_atom_121 : decode cX13_atom 121 = .ok (.aload_n 0, 1) := by decide +kernel
theorem dX13_atom_122 : decode cX13_atom 122 = .ok (.getfield 23, 3) := by decide +kernel
theorem dX13_atom_125 : decode cX13_atom 125 = .ok (.aload_n 0, 1) := by decide +kernel
theorem dX13_atom_126 : decode cX13_atom 126 = .ok (.getfield 131, 3) := by decide +kernel
theorem dX13_atom_129 : decode cX13_atom 129 = .ok (.aload_n 0, 1) := by decide +kernel
theorem dX13_atom_130 : decode cX13_atom 130 = .ok (.getfield 125, 3) := by decide +kernel
theorem dX13_atom_133 : decode cX13_atom 133 = .ok (.iadd, 1) := by decide +kernel
theorem dX13_atom_134 : decode cX13_atom 134 = .ok (.baload, 1) := by decide +kernel
theorem dX13_atom_135 : decode cX13_atom 135 = .ok (.iadd, 1) := by decide +kernel
theorem dX13_atom_136 : decode cX13_atom 136 = .ok (.bipush 48, 2) := by decide +kernel
theorem dX13_atom_138 : decode cX13_atom 138 = .ok (.isub, 1) := by decide +kernel
theorem dX13_atom_139 : decode cX13_atom 139 = .ok (.istore_n 2, 1) := by decide +kernel
theorem dX13_atom_140 : decode cX13_atom 140 = .ok (.aload_n 0, 1) := by decide +kernel
theorem dX13_atom_141 : decode cX13_atom 141 = .ok (.dup, 1) := by decide +kernel
theorem dX13_atom_142 : decode cX13_atom 142 = .ok (.getfield 125, 3) := by decide +kernel
theorem dX13_atom_145 : decode cX13_atom 145 = .ok (.iconst 1, 1) := by decide +kernel
theorem dX13_atom_146 : decode cX13_atom 146 = .ok (.iadd, 1) := by decide +kernel
theorem dX13_atom_147 : decode cX13_atom 147 = .ok (.putfield 125, 3) := by decide +kernel
theorem dX13_atom_150 : decode cX13_atom 150 = .ok (.iinc 3 1, 3) := by decide +kernel
theorem dX13_atom_153 : decode cX13_atom 153 = .ok (.goto (-63), 3) := by decide +kernel
theorem dX13_atom_156 : decode cX13_atom 156 = .ok (.iload_n 2, 1) := by decide +kernel
theorem dX13_atom_157 : decode cX13_atom 157 = .ok (.ireturn, 1) := by decide +kernel
theorem dX13_term_0 : decode cX13_term 0 = .ok (.aload_n 0, 1) := by decide +kernel
theorem dX13_term_1 : decode cX13_term 1 = .ok (.invokevirtual 177, 3) := by decide +kernel
theorem dX13_term_4 : decode cX13_term 4 = .ok (.istore_n 1, 1) := by decide +kernel
theorem dX13_term_5 : decode cX13_term 5 = .ok (.aload_n 0, 1) := by decide +kernel
theorem dX13_term_6 : decode cX13_term 6 = .ok (.getfield 134, 3) := by decide +kernel
theorem dX13_term_9 : decode cX13_term 9 = .ok (.iconst (-1), 1) := by decide +kernel
theorem dX13_term_10 : decode cX13_term 10 = .ok (.if_icmp .ne 84, 3) := by decide +kernel
theorem dX13_term_13 : decode cX13_term 13 = .ok (.aload_n 0, 1) := by decide +kernel
theorem dX13_term_14 : decode cX13_term 14 = .ok (.invokevirtual 144, 3) := by decide +kernel
theorem dX13_term_17 : decode cX13_term 17 = .ok (.bipush 42, 2) := by decide +kernel
theorem dX13_term_19 : decode cX13_term 19 = .ok (.if_icmp .eq 12, 3) := by decide +kernel
theorem dX13_term_22 : decode cX13_term 22 = .ok (.aload_n 0, 1) := by decide +kernel
theorem dX13_term_23 : decode cX13_term 23 = .ok (.invokevirtual 144, 3) := by decide +kernel
theorem dX13_term_26 : decode cX13_term 26 = .ok (.bipush 47, 2) := by decide +kernel
theorem dX13_term_28 : decode cX13_term 28 = .ok (.if_icmp .ne 66, 3) := by decide +kernel
theorem dX13_term_31 : decode cX13_term 31 = .ok (.aload_n 0, 1) := by decide +kernel
theorem dX13_term_32 : decode cX13_term 32 = .ok (.invokevirtual 144, 3) := by decide +kernel
theorem dX13_term_35 : decode cX13_term 35 = .ok (.bipush 42, 2) := by decide +kernel
theorem dX13_term_37 : decode cX13_term 37 = .ok (.if_icmp .ne 7, 3) := by decide +kernel
theorem dX13_term_40 : decode cX13_term 40 = .ok (.iconst 1, 1) := by decide +kernel
theorem dX13_term_41 : decode cX13_term 41 = .ok (.goto 4, 3) := by decide +kernel
theorem dX13_term_44 : decode cX13_term 44 = .ok (.iconst 0, 1) := by decide +kernel
theorem dX13_term_45 : decode cX13_term 45 = .ok (.istore_n 2, 1) := by decide +kernel
theorem dX13_term_46 : decode cX13_term 46 = .ok (.aload_n 0, 1) := by decide +kernel
theorem dX13_term_47 : decode cX13_term 47 = .ok (.dup, 1) := by decide +kernel
theorem dX13_term_48 : decode cX13_term 48 = .ok (.getfield 125, 3) := by decide +kernel
theorem dX13_term_51 : decode cX13_term 51 = .ok (.iconst 1, 1) := by decide +kernel
theorem dX13_term_52 : decode cX13_term 52 = .ok (.iadd, 1) := by decide +kernel
theorem dX13_term_53 : decode cX13_term 53 = .ok (.putfield 125, 3) := by decide +kernel
theorem dX13_term_56 : decode cX13_term 56 = .ok (.aload_n 0, 1) := by decide +kernel
theorem dX13_term_57 : decode cX13_term 57 = .ok (.invokevirtual 177, 3) := by decide +kernel
theorem dX13_term_60 : decode cX13_term 60 = .ok (.i2l, 1) := by decide +kernel
theorem dX13_term_61 : decode cX13_term 61 = .ok (.lstore_n 3, 1) := by decide +kernel
theorem dX13_term_62 : decode cX13_term 62 = .ok (.iload_n 2, 1) := by decide +kernel
theorem dX13_term_63 : decode cX13_term 63 = .ok (.ifCond .eq 10, 3) := by decide +kernel
theorem dX13_term_66 : decode cX13_term 66 = .ok (.iload_n 1, 1) := by decide +kernel
theorem dX13_term_67 : decode cX13_term 67 = .ok (.i2l, 1) := by decide +kernel
theorem dX13_term_68 : decode cX13_term 68 = .ok (.lload_n 3, 1) := by decide +kernel
theorem dX13_term_69 : decode cX13_term 69 = .ok (.lmul, 1) := by decide +kernel
theorem dX13_term_70 : decode cX13_term 70 = .ok (.goto 17, 3) := by decide +kernel
theorem dX13_term_73 : decode cX13_term 73 = .ok (.lload_n 3, 1) := by decide +kernel
theorem dX13_term_74 : decode cX13_term 74 = .ok (.lconst 0, 1) := by decide +kernel
theorem dX13_term_75 : decode cX13_term 75 = .ok (.lcmp, 1) := by decide +kernel
theorem dX13_term_76 : decode cX13_term 76 = .ok (.ifCond .ne 7, 3) := by decide +kernel
theorem dX13_term_79 : decode cX13_term 79 = .ok (.lconst 0, 1) := by decide +kernel
theorem dX13_term_80 : decode cX13_term 80 = .ok (.goto 7, 3) := by decide +kernel
theorem dX13_term_83 : decode cX13_term 83 = .ok (.iload_n 1, 1) := by decide +kernel
theorem dX13_term_84 : decode cX13_term 84 = .ok (.i2l, 1) := by decide +kernel
theorem dX13_term_85 : decode cX13_term 85 = .ok (.lload_n 3, 1) := by decide +kernel
theorem dX13_term_86 : decode cX13_term 86 = .ok (.ldiv, 1) := by decide +kernel
theorem dX13_term_87 : decode cX13_term 87 = .ok (.invokestatic 180, 3) := by decide +kernel
theorem dX13_term_90 : decode cX13_term 90 = .ok (.istore_n 1, 1) := by decide +kernel
theorem dX13_term_91 : decode cX13_term 91 = .ok (.goto (-86), 3) := by decide +kernel
theorem dX13_term_94 : decode cX13_term 94 = .ok (.iload_n 1, 1) := by decide +kernel
theorem dX13_term_95 : decode cX13_term 95 = .ok (.ireturn, 1) := by decide +kernel
theorem dX13_sum_0 : decode cX13_sum 0 = .ok (.aload_n 0, 1) := by decide +kernel
theorem dX13_sum_1 : decode cX13_sum 1 = .ok (.invokevirtual 184, 3) := by decide +kernel
theorem dX13_sum_4 : decode cX13_sum 4 = .ok (.istore_n 1, 1) := by decide +kernel
theorem dX13_sum_5 : decode cX13_sum 5 = .ok (.aload_n 0, 1) := by decide +kernel
theorem dX13_sum_6 : decode cX13_sum 6 = .ok (.getfield 134, 3) := by decide +kernel
theorem dX13_sum_9 : decode cX13_sum 9 = .ok (.iconst (-1), 1) := by decide +kernel
theorem dX13_sum_10 : decode cX13_sum 10 = .ok (.if_icmp .ne 74, 3) := by decide +kernel
theorem dX13_sum_13 : decode cX13_sum 13 = .ok (.aload_n 0, 1) := by decide +kernel
theorem dX13_sum_14 : decode cX13_sum 14 = .ok (.invokevirtual 144, 3) := by decide +kernel
theorem dX13_sum_17 : decode cX13_sum 17 = .ok (.bipush 43, 2) := by decide +kernel
theorem dX13_sum_19 : decode cX13_sum 19 = .ok (.if_icmp .eq 12, 3) := by decide +kernel
theorem dX13_sum_22 : decode cX13_sum 22 = .ok (.aload_n 0, 1) := by decide +kernel
theorem dX13_sum_23 : decode cX13_sum 23 = .ok (.invokevirtual 144, 3) := by decide +kernel
theorem dX13_sum_26 : decode cX13_sum 26 = .ok (.bipush 45, 2) := by decide +kernel
theorem dX13_sum_28 : decode cX13_sum 28 = .ok (.if_icmp .ne 56, 3) := by decide +kernel
theorem dX13_sum_31 : decode cX13_sum 31 = .ok (.aload_n 0, 1) := by decide +kernel
theorem dX13_sum_32 : decode cX13_sum 32 = .ok (.invokevirtual 144, 3) := by decide +kernel
theorem dX13_sum_35 : decode cX13_sum 35 = .ok (.bipush 43, 2) := by decide +kernel
theorem dX13_sum_37 : decode cX13_sum 37 = .ok (.if_icmp .ne 7, 3) := by decide +kernel
theorem dX13_sum_40 : decode cX13_sum 40 = .ok (.iconst 1, 1) := by decide +kernel
theorem dX13_sum_41 : decode cX13_sum 41 = .ok (.goto 4, 3) := by decide +kernel
theorem dX13_sum_44 : decode cX13_sum 44 = .ok (.iconst 0, 1) := by decide +kernel
theorem dX13_sum_45 : decode cX13_sum 45 = .ok (.istore_n 2, 1) := by decide +kernel
theorem dX13_sum_46 : decode cX13_sum 46 = .ok (.aload_n 0, 1) := by decide +kernel
theorem dX13_sum_47 : decode cX13_sum 47 = .ok (.dup, 1) := by decide +kernel
theorem dX13_sum_48 : decode cX13_sum 48 = .ok (.getfield 125, 3) := by decide +kernel
theorem dX13_sum_51 : decode cX13_sum 51 = .ok (.iconst 1, 1) := by decide +kernel
theorem dX13_sum_52 : decode cX13_sum 52 = .ok (.iadd, 1) := by decide +kernel
theorem dX13_sum_53 : decode cX13_sum 53 = .ok (.putfield 125, 3) := by decide +kernel
theorem dX13_sum_56 : decode cX13_sum 56 = .ok (.aload_n 0, 1) := by decide +kernel
theorem dX13_sum_57 : decode cX13_sum 57 = .ok (.invokevirtual 184, 3) := by decide +kernel
theorem dX13_sum_60 : decode cX13_sum 60 = .ok (.i2l, 1) := by decide +kernel
theorem dX13_sum_61 : decode cX13_sum 61 = .ok (.lstore_n 3, 1) := by decide +kernel
theorem dX13_sum_62 : decode cX13_sum 62 = .ok (.iload_n 2, 1) := by decide +kernel
theorem dX13_sum_63 : decode cX13_sum 63 = .ok (.ifCond .eq 10, 3) := by decide +kernel
theorem dX13_sum_66 : decode cX13_sum 66 = .ok (.iload_n 1, 1) := by decide +kernel
theorem dX13_sum_67 : decode cX13_sum 67 = .ok (.i2l, 1) := by decide +kernel
theorem dX13_sum_68 : decode cX13_sum 68 = .ok (.lload_n 3, 1) := by decide +kernel
theorem dX13_sum_69 : decode cX13_sum 69 = .ok (.ladd, 1) := by decide +kernel
theorem dX13_sum_70 : decode cX13_sum 70 = .ok (.goto 7, 3) := by decide +kernel
theorem dX13_sum_73 : decode cX13_sum 73 = .ok (.iload_n 1, 1) := by decide +kernel
theorem dX13_sum_74 : decode cX13_sum 74 = .ok (.i2l, 1) := by decide +kernel
theorem dX13_sum_75 : decode cX13_sum 75 = .ok (.lload_n 3, 1) := by decide +kernel
theorem dX13_sum_76 : decode cX13_sum 76 = .ok (.lsub, 1) := by decide +kernel
theorem dX13_sum_77 : decode cX13_sum 77 = .ok (.invokestatic 180, 3) := by decide +kernel
theorem dX13_sum_80 : decode cX13_sum 80 = .ok (.istore_n 1, 1) := by decide +kernel
theorem dX13_sum_81 : decode cX13_sum 81 = .ok (.goto (-76), 3) := by decide +kernel
theorem dX13_sum_84 : decode cX13_sum 84 = .ok (.iload_n 1, 1) := by decide +kernel
theorem dX13_sum_85 : decode cX13_sum 85 = .ok (.ireturn, 1) := by decide +kernel
theorem dX13_isSign_0 : decode cX13_isSign 0 = .ok (.iload_n 0, 1) := by decide +kernel
theorem dX13_isSign_1 : decode cX13_isSign 1 = .ok (.bipush 61, 2) := by decide +kernel
theorem dX13_isSign_3 : decode cX13_isSign 3 = .ok (.if_icmp .eq 15, 3) := by decide +kernel
theorem dX13_isSign_6 : decode cX13_isSign 6 = .ok (.iload_n 0, 1) := by decide +kernel
theorem dX13_isSign_7 : decode cX13_isSign 7 = .ok (.bipush 60, 2) := by decide +kernel
theorem dX13_isSign_9 : decode cX13_isSign 9 = .ok (.if_icmp .eq 9, 3) := by decide +kernel
theorem dX13_isSign_12 : decode cX13_isSign 12 = .ok (.iload_n 0, 1) := by decide +kernel
theorem dX13_isSign_13 : decode cX13_isSign 13 = .ok (.bipush 62, 2) := by decide +kernel
theorem dX13_isSign_15 : decode cX13_isSign 15 = .ok (.if_icmp .ne 7, 3) := by decide +kernel
theorem dX13_isSign_18 : decode cX13_isSign 18 = .ok (.iconst 1, 1) := by decide +kernel
theorem dX13_isSign_19 : decode cX13_isSign 19 = .ok (.goto 4, 3) := by decide +kernel
theorem dX13_isSign_22 : decode cX13_isSign 22 = .ok (.iconst 0, 1) := by decide +kernel
theorem dX13_isSign_23 : decode cX13_isSign 23 = .ok (.ireturn, 1) := by decide +kernel
theorem dX13_compares_0 : decode cX13_compares 0 = .ok (.iload_n 1, 1) := by decide +kernel
theorem dX13_compares_1 : decode cX13_compares 1 = .ok (.ifCond .eq 7, 3) := by decide +kernel
theorem dX13_compares_4 : decode cX13_compares 4 = .ok (.iload_n 2, 1) := by decide +kernel
theorem dX13_compares_5 : decode cX13_compares 5 = .ok (.goto 7, 3) := by decide +kernel
theorem dX13_compares_8 : decode cX13_compares 8 = .ok (.aload_n 0, 1) := by decide +kernel
theorem dX13_compares_9 : decode cX13_compares 9 = .ok (.invokevirtual 167, 3) := by decide +kernel
theorem dX13_compares_12 : decode cX13_compares 12 = .ok (.istore_n 3, 1) := by decide +kernel
theorem dX13_compares_13 : decode cX13_compares 13 = .ok (.aload_n 0, 1) := by decide +kernel
theorem dX13_compares_14 : decode cX13_compares 14 = .ok (.getfield 134, 3) := by decide +kernel
theorem dX13_compares_17 : decode cX13_compares 17 = .ok (.iconst (-1), 1) := by decide +kernel
theorem dX13_compares_18 : decode cX13_compares 18 = .ok (.if_icmp .eq 5, 3) := by decide +kernel
theorem dX13_compares_21 : decode cX13_compares 21 = .ok (.iconst 0, 1) := by decide +kernel
theorem dX13_compares_22 : decode cX13_compares 22 = .ok (.ireturn, 1) := by decide +kernel
theorem dX13_compares_23 : decode cX13_compares 23 = .ok (.aload_n 0, 1) := by decide +kernel
theorem dX13_compares_24 : decode cX13_compares 24 = .ok (.invokevirtual 144, 3) := by decide +kernel
theorem dX13_compares_27 : decode cX13_compares 27 = .ok (.istore 4, 2) := by decide +kernel
theorem dX13_compares_29 : decode cX13_compares 29 = .ok (.iload 4, 2) := by decide +kernel
theorem dX13_compares_31 : decode cX13_compares 31 = .ok (.invokestatic 187, 3) := by decide +kernel
theorem dX13_compares_34 : decode cX13_compares 34 = .ok (.ifCond .ne 8, 3) := by decide +kernel
theorem dX13_compares_37 : decode cX13_compares 37 = .ok (.aload_n 0, 1) := by decide +kernel
theorem dX13_compares_38 : decode cX13_compares 38 = .ok (.invokevirtual 140, 3) := by decide +kernel
theorem dX13_compares_41 : decode cX13_compares 41 = .ok (.ireturn, 1) := by decide +kernel
theorem dX13_compares_42 : decode cX13_compares 42 = .ok (.aload_n 0, 1) := by decide +kernel
theorem dX13_compares_43 : decode cX13_compares 43 = .ok (.dup, 1) := by decide +kernel
theorem dX13_compares_44 : decode cX13_compares 44 = .ok (.getfield 125, 3) := by decide +kernel
theorem dX13_compares_47 : decode cX13_compares 47 = .ok (.iconst 1, 1) := by decide +kernel
theorem dX13_compares_48 : decode cX13_compares 48 = .ok (.iadd, 1) := by decide +kernel
theorem dX13_compares_49 : decode cX13_compares 49 = .ok (.putfield 125, 3) := by decide +kernel
theorem dX13_compares_52 : decode cX13_compares 52 = .ok (.aload_n 0, 1) := by decide +kernel
theorem dX13_compares_53 : decode cX13_compares 53 = .ok (.invokevirtual 167, 3) := by decide +kernel
theorem dX13_compares_56 : decode cX13_compares 56 = .ok (.istore 5, 2) := by decide +kernel
theorem dX13_compares_58 : decode cX13_compares 58 = .ok (.iload 4, 2) := by decide +kernel
theorem dX13_compares_60 : decode cX13_compares 60 = .ok (.bipush 61, 2) := by decide +kernel
theorem dX13_compares_62 : decode cX13_compares 62 = .ok (.if_icmp .ne 17, 3) := by decide +kernel
theorem dX13_compares_65 : decode cX13_compares 65 = .ok (.iload_n 3, 1) := by decide +kernel
theorem dX13_compares_66 : decode cX13_compares 66 = .ok (.iload 5, 2) := by decide +kernel
theorem dX13_compares_68 : decode cX13_compares 68 = .ok (.if_icmp .ne 7, 3) := by decide +kernel
theorem dX13_compares_71 : decode cX13_compares 71 = .ok (.iconst 1, 1) := by decide +kernel
theorem dX13_compares_72 : decode cX13_compares 72 = .ok (.goto 39, 3) := by decide +kernel
theorem dX13_compares_75 : decode cX13_compares 75 = .ok (.iconst 0, 1) := by decide +kernel
theorem dX13_compares_76 : decode cX13_compares 76 = .ok (.goto 35, 3) := by decide +kernel
theorem dX13_compares_79 : decode cX13_compares 79 = .ok (.iload 4, 2) := by decide +kernel
theorem dX13_compares_81 : decode cX13_compares 81 = .ok (.bipush 60, 2) := by decide +kernel
theorem dX13_compares_83 : decode cX13_compares 83 = .ok (.if_icmp .ne 17, 3) := by decide +kernel
theorem dX13_compares_86 : decode cX13_compares 86 = .ok (.iload_n 3, 1) := by decide +kernel
theorem dX13_compares_87 : decode cX13_compares 87 = .ok (.iload 5, 2) := by decide +kernel
theorem dX13_compares_89 : decode cX13_compares 89 = .ok (.if_icmp .ge 7, 3) := by decide +kernel
theorem dX13_compares_92 : decode cX13_compares 92 = .ok (.iconst 1, 1) := by decide +kernel
theorem dX13_compares_93 : decode cX13_compares 93 = .ok (.goto 18, 3) := by decide +kernel
theorem dX13_compares_96 : decode cX13_compares 96 = .ok (.iconst 0, 1) := by decide +kernel
theorem dX13_compares_97 : decode cX13_compares 97 = .ok (.goto 14, 3) := by decide +kernel
theorem dX13_compares_100 : decode cX13_compares 100 = .ok (.iload_n 3, 1) := by decide +kernel
theorem dX13_compares_101 : decode cX13_compares 101 = .ok (.iload 5, 2) := by decide +kernel
theorem dX13_compares_103 : decode cX13_compares 103 = .ok (.if_icmp .le 7, 3) := by decide +kernel
theorem dX13_compares_106 : decode cX13_compares 106 = .ok (.iconst 1, 1) := by decide +kernel
theorem dX13_compares_107 : decode cX13_compares 107 = .ok (.goto 4, 3) := by decide +kernel
theorem dX13_compares_110 : decode cX13_compares 110 = .ok (.iconst 0, 1) := by decide +kernel
theorem dX13_compares_111 : decode cX13_compares 111 = .ok (.ireturn, 1) := by decide +kernel
theorem dX13_unit_0 : decode cX13_unit 0 = .ok (.aload_n 0, 1) := by decide +kernel
theorem dX13_unit_1 : decode cX13_unit 1 = .ok (.invokevirtual 144, 3) := by decide +kernel
theorem dX13_unit_4 : decode cX13_unit 4 = .ok (.istore_n 1, 1) := by decide +kernel
theorem dX13_unit_5 : decode cX13_unit 5 = .ok (.iload_n 1, 1) := by decide +kernel
theorem dX13_unit_6 : decode cX13_unit 6 = .ok (.bipush 33, 2) := by decide +kernel
theorem dX13_unit_8 : decode cX13_unit 8 = .ok (.if_icmp .ne 37, 3) := by decide +kernel
theorem dX13_unit_11 : decode cX13_unit 11 = .ok (.aload_n 0, 1) := by decide +kernel
theorem dX13_unit_12 : decode cX13_unit 12 = .ok (.invokevirtual 164, 3) := by decide +kernel
theorem dX13_unit_15 : decode cX13_unit 15 = .ok (.ifCond .ne 5, 3) := by decide +kernel
theorem dX13_unit_18 : decode cX13_unit 18 = .ok (.iconst 0, 1) := by decide +kernel
theorem dX13_unit_19 : decode cX13_unit 19 = .ok (.ireturn, 1) := by decide +kernel
theorem dX13_unit_20 : decode cX13_unit 20 = .ok (.aload_n 0, 1) := by decide +kernel
theorem dX13_unit_21 : decode cX13_unit 21 = .ok (.invokevirtual 190, 3) := by decide +kernel
theorem dX13_unit_24 : decode cX13_unit 24 = .ok (.istore_n 2, 1) := by decide +kernel
theorem dX13_unit_25 : decode cX13_unit 25 = .ok (.aload_n 0, 1) := by decide +kernel
theorem dX13_unit_26 : decode cX13_unit 26 = .ok (.dup, 1) := by decide +kernel
theorem dX13_unit_27 : decode cX13_unit 27 = .ok (.getfield 137, 3) := by decide +kernel
theorem dX13_unit_30 : decode cX13_unit 30 = .ok (.iconst 1, 1) := by decide +kernel
theorem dX13_unit_31 : decode cX13_unit 31 = .ok (.isub, 1) := by decide +kernel
theorem dX13_unit_32 : decode cX13_unit 32 = .ok (.putfield 137, 3) := by decide +kernel
theorem dX13_unit_35 : decode cX13_unit 35 = .ok (.iload_n 2, 1) := by decide +kernel
theorem dX13_unit_36 : decode cX13_unit 36 = .ok (.ifCond .ne 7, 3) := by decide +kernel
theorem dX13_unit_39 : decode cX13_unit 39 = .ok (.iconst 1, 1) := by decide +kernel
theorem dX13_unit_40 : decode cX13_unit 40 = .ok (.goto 4, 3) := by decide +kernel
theorem dX13_unit_43 : decode cX13_unit 43 = .ok (.iconst 0, 1) := by decide +kernel
theorem dX13_unit_44 : decode cX13_unit 44 = .ok (.ireturn, 1) := by decide +kernel
theorem dX13_unit_45 : decode cX13_unit 45 = .ok (.iload_n 1, 1) := by decide +kernel
theorem dX13_unit_46 : decode cX13_unit 46 = .ok (.bipush 40, 2) := by decide +kernel
theorem dX13_unit_48 : decode cX13_unit 48 = .ok (.if_icmp .ne 42, 3) := by decide +kernel
theorem dX13_unit_51 : decode cX13_unit 51 = .ok (.aload_n 0, 1) := by decide +kernel
theorem dX13_unit_52 : decode cX13_unit 52 = .ok (.invokevirtual 164, 3) := by decide +kernel
theorem dX13_unit_55 : decode cX13_unit 55 = .ok (.ifCond .ne 5, 3) := by decide +kernel
theorem dX13_unit_58 : decode cX13_unit 58 = .ok (.iconst 0, 1) := by decide +kernel
theorem dX13_unit_59 : decode cX13_unit 59 = .ok (.ireturn, 1) := by decide +kernel
theorem dX13_unit_60 : decode cX13_unit 60 = .ok (.aload_n 0, 1) := by decide +kernel
theorem dX13_unit_61 : decode cX13_unit 61 = .ok (.iconst 0, 1) := by decide +kernel
theorem dX13_unit_62 : decode cX13_unit 62 = .ok (.iconst 0, 1) := by decide +kernel
theorem dX13_unit_63 : decode cX13_unit 63 = .ok (.invokevirtual 193, 3) := by decide +kernel
theorem dX13_unit_66 : decode cX13_unit 66 = .ok (.istore_n 2, 1) := by decide +kernel
theorem dX13_unit_67 : decode cX13_unit 67 = .ok (.aload_n 0, 1) := by decide +kernel
theorem dX13_unit_68 : decode cX13_unit 68 = .ok (.bipush 41, 2) := by decide +kernel
theorem dX13_unit_70 : decode cX13_unit 70 = .ok (.invokevirtual 170, 3) := by decide +kernel
theorem dX13_unit_73 : decode cX13_unit 73 = .ok (.ifCond .ne 5, 3) := by decide +kernel
theorem dX13_unit_76 : decode cX13_unit 76 = .ok (.iconst 0, 1) := by decide +kernel
theorem dX13_unit_77 : decode cX13_unit 77 = .ok (.ireturn, 1) := by decide +kernel
theorem dX13_unit_78 : decode cX13_unit 78 = .ok (.aload_n 0, 1) := by decide +kernel
theorem dX13_unit_79 : decode cX13_unit 79 = .ok (.dup, 1) := by decide +kernel
theorem dX13_unit_80 : decode cX13_unit 80 = .ok (.getfield 137, 3) := by decide +kernel
theorem dX13_unit_83 : decode cX13_unit 83 = .ok (.iconst 1, 1) := by decide +kernel
theorem dX13_unit_84 : decode cX13_unit 84 = .ok (.isub, 1) := by decide +kernel
theorem dX13_unit_85 : decode cX13_unit 85 = .ok (.putfield 137, 3) := by decide +kernel
theorem dX13_unit_88 : decode cX13_unit 88 = .ok (.iload_n 2, 1) := by decide +kernel
theorem dX13_unit_89 : decode cX13_unit 89 = .ok (.ireturn, 1) := by decide +kernel
theorem dX13_unit_90 : decode cX13_unit 90 = .ok (.aload_n 0, 1) := by decide +kernel
theorem dX13_unit_91 : decode cX13_unit 91 = .ok (.iconst 0, 1) := by decide +kernel
theorem dX13_unit_92 : decode cX13_unit 92 = .ok (.iconst 0, 1) := by decide +kernel
theorem dX13_unit_93 : decode cX13_unit 93 = .ok (.invokevirtual 197, 3) := by decide +kernel
theorem dX13_unit_96 : decode cX13_unit 96 = .ok (.ireturn, 1) := by decide +kernel
theorem dX13_part_0 : decode cX13_part 0 = .ok (.iload_n 1, 1) := by decide +kernel
theorem dX13_part_1 : decode cX13_part 1 = .ok (.ifCond .eq 12, 3) := by decide +kernel
theorem dX13_part_4 : decode cX13_part 4 = .ok (.aload_n 0, 1) := by decide +kernel
theorem dX13_part_5 : decode cX13_part 5 = .ok (.iconst 1, 1) := by decide +kernel
theorem dX13_part_6 : decode cX13_part 6 = .ok (.iload_n 2, 1) := by decide +kernel
theorem dX13_part_7 : decode cX13_part 7 = .ok (.invokevirtual 197, 3) := by decide +kernel
theorem dX13_part_10 : decode cX13_part 10 = .ok (.goto 7, 3) := by decide +kernel
theorem dX13_part_13 : decode cX13_part 13 = .ok (.aload_n 0, 1) := by decide +kernel
theorem dX13_part_14 : decode cX13_part 14 = .ok (.invokevirtual 190, 3) := by decide +kernel
theorem dX13_part_17 : decode cX13_part 17 = .ok (.istore_n 3, 1) := by decide +kernel
theorem dX13_part_18 : decode cX13_part 18 = .ok (.aload_n 0, 1) := by decide +kernel
theorem dX13_part_19 : decode cX13_part 19 = .ok (.getfield 134, 3) := by decide +kernel
theorem dX13_part_22 : decode cX13_part 22 = .ok (.iconst (-1), 1) := by decide +kernel
theorem dX13_part_23 : decode cX13_part 23 = .ok (.if_icmp .ne 46, 3) := by decide +kernel
theorem dX13_part_26 : decode cX13_part 26 = .ok (.aload_n 0, 1) := by decide +kernel
theorem dX13_part_27 : decode cX13_part 27 = .ok (.invokevirtual 144, 3) := by decide +kernel
theorem dX13_part_30 : decode cX13_part 30 = .ok (.bipush 38, 2) := by decide +kernel
theorem dX13_part_32 : decode cX13_part 32 = .ok (.if_icmp .ne 37, 3) := by decide +kernel
theorem dX13_part_35 : decode cX13_part 35 = .ok (.aload_n 0, 1) := by decide +kernel
theorem dX13_part_36 : decode cX13_part 36 = .ok (.dup, 1) := by decide +kernel
theorem dX13_part_37 : decode cX13_part 37 = .ok (.getfield 125, 3) := by decide +kernel
theorem dX13_part_40 : decode cX13_part 40 = .ok (.iconst 1, 1) := by decide +kernel
theorem dX13_part_41 : decode cX13_part 41 = .ok (.iadd, 1) := by decide +kernel
theorem dX13_part_42 : decode cX13_part 42 = .ok (.putfield 125, 3) := by decide +kernel
theorem dX13_part_45 : decode cX13_part 45 = .ok (.aload_n 0, 1) := by decide +kernel
theorem dX13_part_46 : decode cX13_part 46 = .ok (.invokevirtual 190, 3) := by decide +kernel
theorem dX13_part_49 : decode cX13_part 49 = .ok (.istore 4, 2) := by decide +kernel
theorem dX13_part_51 : decode cX13_part 51 = .ok (.iload_n 3, 1) := by decide +kernel
theorem dX13_part_52 : decode cX13_part 52 = .ok (.ifCond .eq 12, 3) := by decide +kernel
theorem dX13_part_55 : decode cX13_part 55 = .ok (.iload 4, 2) := by decide +kernel
theorem dX13_part_57 : decode cX13_part 57 = .ok (.ifCond .eq 7, 3) := by decide +kernel
theorem dX13_part_60 : decode cX13_part 60 = .ok (.iconst 1, 1) := by decide +kernel
theorem dX13_part_61 : decode cX13_part 61 = .ok (.goto 4, 3) := by decide +kernel
theorem dX13_part_64 : decode cX13_part 64 = .ok (.iconst 0, 1) := by decide +kernel
theorem dX13_part_65 : decode cX13_part 65 = .ok (.istore_n 3, 1) := by decide +kernel
theorem dX13_part_66 : decode cX13_part 66 = .ok (.goto (-48), 3) := by decide +kernel
theorem dX13_part_69 : decode cX13_part 69 = .ok (.iload_n 3, 1) := by decide +kernel
theorem dX13_part_70 : decode cX13_part 70 = .ok (.ireturn, 1) := by decide +kernel
theorem dX13_condition_0 : decode cX13_condition 0 = .ok (.aload_n 0, 1) := by decide +kernel
theorem dX13_condition_1 : decode cX13_condition 1 = .ok (.iload_n 1, 1) := by decide +kernel
theorem dX13_condition_2 : decode cX13_condition 2 = .ok (.iload_n 2, 1) := by decide +kernel
theorem dX13_condition_3 : decode cX13_condition 3 = .ok (.invokevirtual 200, 3) := by decide +kernel
theorem dX13_condition_6 : decode cX13_condition 6 = .ok (.istore_n 3, 1) := by decide +kernel
theorem dX13_condition_7 : decode cX13_condition 7 = .ok (.aload_n 0, 1) := by decide +kernel
theorem dX13_condition_8 : decode cX13_condition 8 = .ok (.getfield 134, 3) := by decide +kernel
theorem dX13_condition_11 : decode cX13_condition 11 = .ok (.iconst (-1), 1) := by decide +kernel
theorem dX13_condition_12 : decode cX13_condition 12 = .ok (.if_icmp .ne 48, 3) := by decide +kernel
theorem dX13_condition_15 : decode cX13_condition 15 = .ok (.aload_n 0, 1) := by decide +kernel
theorem dX13_condition_16 : decode cX13_condition 16 = .ok (.invokevirtual 144, 3) := by decide +kernel
theorem dX13_condition_19 : decode cX13_condition 19 = .ok (.bipush 124, 2) := by decide +kernel
theorem dX13_condition_21 : decode cX13_condition 21 = .ok (.if_icmp .ne 39, 3) := by decide +kernel
theorem dX13_condition_24 : decode cX13_condition 24 = .ok (.aload_n 0, 1) := by decide +kernel
theorem dX13_condition_25 : decode cX13_condition 25 = .ok (.dup, 1) := by decide +kernel
theorem dX13_condition_26 : decode cX13_condition 26 = .ok (.getfield 125, 3) := by decide +kernel
theorem dX13_condition_29 : decode cX13_condition 29 = .ok (.iconst 1, 1) := by decide +kernel
theorem dX13_condition_30 : decode cX13_condition 30 = .ok (.iadd, 1) := by decide +kernel
theorem dX13_condition_31 : decode cX13_condition 31 = .ok (.putfield 125, 3) := by decide +kernel
theorem dX13_condition_34 : decode cX13_condition 34 = .ok (.aload_n 0, 1) := by decide +kernel
theorem dX13_condition_35 : decode cX13_condition 35 = .ok (.iconst 0, 1) := by decide +kernel
theorem dX13_condition_36 : decode cX13_condition 36 = .ok (.iconst 0, 1) := by decide +kernel
theorem dX13_condition_37 : decode cX13_condition 37 = .ok (.invokevirtual 200, 3) := by decide +kernel
theorem dX13_condition_40 : decode cX13_condition 40 = .ok (.istore 4, 2) := by decide +kernel
theorem dX13_condition_42 : decode cX13_condition 42 = .ok (.iload_n 3, 1) := by decide +kernel
theorem dX13_condition_43 : decode cX13_condition 43 = .ok (.ifCond .ne 8, 3) := by decide +kernel
theorem dX13_condition_46 : decode cX13_condition 46 = .ok (.iload 4, 2) := by decide +kernel
theorem dX13_condition_48 : decode cX13_condition 48 = .ok (.ifCond .eq 7, 3) := by decide +kernel
theorem dX13_condition_51 : decode cX13_condition 51 = .ok (.iconst 1, 1) := by decide +kernel
theorem dX13_condition_52 : decode cX13_condition 52 = .ok (.goto 4, 3) := by decide +kernel
theorem dX13_condition_55 : decode cX13_condition 55 = .ok (.iconst 0, 1) := by decide +kernel
theorem dX13_condition_56 : decode cX13_condition 56 = .ok (.istore_n 3, 1) := by decide +kernel
theorem dX13_condition_57 : decode cX13_condition 57 = .ok (.goto (-50), 3) := by decide +kernel
theorem dX13_condition_60 : decode cX13_condition 60 = .ok (.iload_n 3, 1) := by decide +kernel
theorem dX13_condition_61 : decode cX13_condition 61 = .ok (.ireturn, 1) := by decide +kernel
theorem dX13_clause_0 : decode cX13_clause 0 = .ok (.aload_n 0, 1) := by decide +kernel
theorem dX13_clause_1 : decode cX13_clause 1 = .ok (.invokevirtual 144, 3) := by decide +kernel
theorem dX13_clause_4 : decode cX13_clause 4 = .ok (.istore_n 1, 1) := by decide +kernel
theorem dX13_clause_5 : decode cX13_clause 5 = .ok (.ldc 26, 2) := by decide +kernel
theorem dX13_clause_7 : decode cX13_clause 7 = .ok (.iload_n 1, 1) := by decide +kernel
theorem dX13_clause_8 : decode cX13_clause 8 = .ok (.invokestatic 160, 3) := by decide +kernel
theorem dX13_clause_11 : decode cX13_clause 11 = .ok (.ifCond .ne 9, 3) := by decide +kernel
theorem dX13_clause_14 : decode cX13_clause 14 = .ok (.aload_n 0, 1) := by decide +kernel
theorem dX13_clause_15 : decode cX13_clause 15 = .ok (.invokevirtual 140, 3) := by decide +kernel
theorem dX13_clause_18 : decode cX13_clause 18 = .ok (.pop, 1) := by decide +kernel
theorem dX13_clause_19 : decode cX13_clause 19 = .ok (.return_, 1) := by decide +kernel
theorem dX13_clause_20 : decode cX13_clause 20 = .ok (.aload_n 0, 1) := by decide +kernel
theorem dX13_clause_21 : decode cX13_clause 21 = .ok (.dup, 1) := by decide +kernel
theorem dX13_clause_22 : decode cX13_clause 22 = .ok (.getfield 125, 3) := by decide +kernel
theorem dX13_clause_25 : decode cX13_clause 25 = .ok (.iconst 1, 1) := by decide +kernel
theorem dX13_clause_26 : decode cX13_clause 26 = .ok (.iadd, 1) := by decide +kernel
theorem dX13_clause_27 : decode cX13_clause 27 = .ok (.putfield 125, 3) := by decide +kernel
theorem dX13_clause_30 : decode cX13_clause 30 = .ok (.aload_n 0, 1) := by decide +kernel
theorem dX13_clause_31 : decode cX13_clause 31 = .ok (.bipush 58, 2) := by decide +kernel
theorem dX13_clause_33 : decode cX13_clause 33 = .ok (.invokevirtual 170, 3) := by decide +kernel
theorem dX13_clause_36 : decode cX13_clause 36 = .ok (.ifCond .ne 4, 3) := by decide +kernel
theorem dX13_clause_39 : decode cX13_clause 39 = .ok (.return_, 1) := by decide +kernel
theorem dX13_clause_40 : decode cX13_clause 40 = .ok (.iconst 1, 1) := by decide +kernel
theorem dX13_clause_41 : decode cX13_clause 41 = .ok (.istore_n 2, 1) := by decide +kernel
theorem dX13_clause_42 : decode cX13_clause 42 = .ok (.iconst 0, 1) := by decide +kernel
theorem dX13_clause_43 : decode cX13_clause 43 = .ok (.istore_n 3, 1) := by decide +kernel
theorem dX13_clause_44 : decode cX13_clause 44 = .ok (.aload_n 0, 1) := by decide +kernel
theorem dX13_clause_45 : decode cX13_clause 45 = .ok (.invokevirtual 144, 3) := by decide +kernel
theorem dX13_clause_48 : decode cX13_clause 48 = .ok (.istore 4, 2) := by decide +kernel
theorem dX13_clause_50 : decode cX13_clause 50 = .ok (.iload 4, 2) := by decide +kernel
theorem dX13_clause_52 : decode cX13_clause 52 = .ok (.bipush 33, 2) := by decide +kernel
theorem dX13_clause_54 : decode cX13_clause 54 = .ok (.if_icmp .eq 10, 3) := by decide +kernel
theorem dX13_clause_57 : decode cX13_clause 57 = .ok (.iload 4, 2) := by decide +kernel
theorem dX13_clause_59 : decode cX13_clause 59 = .ok (.bipush 40, 2) := by decide +kernel
theorem dX13_clause_61 : decode cX13_clause 61 = .ok (.if_icmp .ne 28, 3) := by decide +kernel
theorem dX13_clause_64 : decode cX13_clause 64 = .ok (.aload_n 0, 1) := by decide +kernel
theorem dX13_clause_65 : decode cX13_clause 65 = .ok (.iconst 0, 1) := by decide +kernel
theorem dX13_clause_66 : decode cX13_clause 66 = .ok (.iconst 0, 1) := by decide +kernel
theorem dX13_clause_67 : decode cX13_clause 67 = .ok (.invokevirtual 193, 3) := by decide +kernel
theorem dX13_clause_70 : decode cX13_clause 70 = .ok (.istore_n 2, 1) := by decide +kernel
theorem dX13_clause_71 : decode cX13_clause 71 = .ok (.aload_n 0, 1) := by decide +kernel
theorem dX13_clause_72 : decode cX13_clause 72 = .ok (.bipush 63, 2) := by decide +kernel
theorem dX13_clause_74 : decode cX13_clause 74 = .ok (.invokevirtual 170, 3) := by decide +kernel
theorem dX13_clause_77 : decode cX13_clause 77 = .ok (.ifCond .ne 4, 3) := by decide +kernel
theorem dX13_clause_80 : decode cX13_clause 80 = .ok (.return_, 1) := by decide +kernel
theorem dX13_clause_81 : decode cX13_clause 81 = .ok (.aload_n 0, 1) := by decide +kernel
theorem dX13_clause_82 : decode cX13_clause 82 = .ok (.invokevirtual 167, 3) := by decide +kernel
theorem dX13_clause_85 : decode cX13_clause 85 = .ok (.istore_n 3, 1) := by decide +kernel
theorem dX13_clause_86 : decode cX13_clause 86 = .ok (.goto 48, 3) := by decide +kernel
theorem dX13_clause_89 : decode cX13_clause 89 = .ok (.aload_n 0, 1) := by decide +kernel
theorem dX13_clause_90 : decode cX13_clause 90 = .ok (.invokevirtual 167, 3) := by decide +kernel
theorem dX13_clause_93 : decode cX13_clause 93 = .ok (.istore_n 3, 1) := by decide +kernel
theorem dX13_clause_94 : decode cX13_clause 94 = .ok (.aload_n 0, 1) := by decide +kernel
theorem dX13_clause_95 : decode cX13_clause 95 = .ok (.getfield 134, 3) := by decide +kernel
theorem dX13_clause_98 : decode cX13_clause 98 = .ok (.iconst (-1), 1) := by decide +kernel
theorem dX13_clause_99 : decode cX13_clause 99 = .ok (.if_icmp .ne 35, 3) := by decide +kernel
theorem dX13_clause_102 : decode cX13_clause 102 = .ok (.aload_n 0, 1) := by decide +kernel
theorem dX13_clause_103 : decode cX13_clause 103 = .ok (.invokevirtual 144, 3) := by decide +kernel
theorem dX13_clause_106 : decode cX13_clause 106 = .ok (.invokestatic 187, 3) := by decide +kernel
theorem dX13_clause_109 : decode cX13_clause 109 = .ok (.ifCond .eq 25, 3) := by decide +kernel
theorem dX13_clause_112 : decode cX13_clause 112 = .ok (.aload_n 0, 1) := by decide +kernel
theorem dX13_clause_113 : decode cX13_clause 113 = .ok (.iconst 1, 1) := by decide +kernel
theorem dX13_clause_114 : decode cX13_clause 114 = .ok (.iload_n 3, 1) := by decide +kernel
theorem dX13_clause_115 : decode cX13_clause 115 = .ok (.invokevirtual 193, 3) := by decide +kernel
theorem dX13_clause_118 : decode cX13_clause 118 = .ok (.istore_n 2, 1) := by decide +kernel
theorem dX13_clause_119 : decode cX13_clause 119 = .ok (.aload_n 0, 1) := by decide +kernel
theorem dX13_clause_120 : decode cX13_clause 120 = .ok (.bipush 63, 2) := by decide +kernel
theorem dX13_clause_122 : decode cX13_clause 122 = .ok (.invokevirtual 170, 3) := by decide +kernel
theorem dX13_clause_125 : decode cX13_clause 125 = .ok (.ifCond .ne 4, 3) := by decide +kernel
theorem dX13_clause_128 : decode cX13_clause 128 = .ok (.return_, 1) := by decide +kernel
theorem dX13_clause_129 : decode cX13_clause 129 = .ok (.aload_n 0, 1) := by decide +kernel
theorem dX13_clause_130 : decode cX13_clause 130 = .ok (.invokevirtual 167, 3) := by decide +kernel
theorem dX13_clause_133 : decode cX13_clause 133 = .ok (.istore_n 3, 1) := by decide +kernel
theorem dX13_clause_134 : decode cX13_clause 134 = .ok (.aload_n 0, 1) := by decide +kernel
theorem dX13_clause_135 : decode cX13_clause 135 = .ok (.getfield 134, 3) := by decide +kernel
theorem dX13_clause_138 : decode cX13_clause 138 = .ok (.iconst (-1), 1) := by decide +kernel
theorem dX13_clause_139 : decode cX13_clause 139 = .ok (.if_icmp .ne 22, 3) := by decide +kernel
theorem dX13_clause_142 : decode cX13_clause 142 = .ok (.aload_n 0, 1) := by decide +kernel
theorem dX13_clause_143 : decode cX13_clause 143 = .ok (.getfield 203, 3) := by decide +kernel
theorem dX13_clause_146 : decode cX13_clause 146 = .ok (.ifCond .ne 15, 3) := by decide +kernel
theorem dX13_clause_149 : decode cX13_clause 149 = .ok (.iload_n 1, 1) := by decide +kernel
theorem dX13_clause_150 : decode cX13_clause 150 = .ok (.aload_n 0, 1) := by decide +kernel
theorem dX13_clause_151 : decode cX13_clause 151 = .ok (.getfield 207, 3) := by decide +kernel
theorem dX13_clause_154 : decode cX13_clause 154 = .ok (.if_icmp .ne 7, 3) := by decide +kernel
theorem dX13_clause_157 : decode cX13_clause 157 = .ok (.iload_n 2, 1) := by decide +kernel
theorem dX13_clause_158 : decode cX13_clause 158 = .ok (.ifCond .ne 4, 3) := by decide +kernel
theorem dX13_clause_161 : decode cX13_clause 161 = .ok (.return_, 1) := by decide +kernel
theorem dX13_clause_162 : decode cX13_clause 162 = .ok (.aload_n 0, 1) := by decide +kernel
theorem dX13_clause_163 : decode cX13_clause 163 = .ok (.iconst 1, 1) := by decide +kernel
theorem dX13_clause_164 : decode cX13_clause 164 = .ok (.putfield 203, 3) := by decide +kernel
theorem dX13_clause_167 : decode cX13_clause 167 = .ok (.aload_n 0, 1) := by decide +kernel
theorem dX13_clause_168 : decode cX13_clause 168 = .ok (.iload_n 3, 1) := by decide +kernel
theorem dX13_clause_169 : decode cX13_clause 169 = .ok (.putfield 210, 3) := by decide +kernel
theorem dX13_clause_172 : decode cX13_clause 172 = .ok (.return_, 1) := by decide +kernel
theorem dX13_opens_0 : decode cX13_opens 0 = .ok (.aload_n 0, 1) := by decide +kernel
theorem dX13_opens_1 : decode cX13_opens 1 = .ok (.aload_n 1, 1) := by decide +kernel
theorem dX13_opens_2 : decode cX13_opens 2 = .ok (.putfield 23, 3) := by decide +kernel
theorem dX13_opens_5 : decode cX13_opens 5 = .ok (.aload_n 0, 1) := by decide +kernel
theorem dX13_opens_6 : decode cX13_opens 6 = .ok (.iload_n 2, 1) := by decide +kernel
theorem dX13_opens_7 : decode cX13_opens 7 = .ok (.putfield 131, 3) := by decide +kernel
theorem dX13_opens_10 : decode cX13_opens 10 = .ok (.aload_n 0, 1) := by decide +kernel
theorem dX13_opens_11 : decode cX13_opens 11 = .ok (.iload_n 3, 1) := by decide +kernel
theorem dX13_opens_12 : decode cX13_opens 12 = .ok (.putfield 128, 3) := by decide +kernel
theorem dX13_opens_15 : decode cX13_opens 15 = .ok (.aload_n 0, 1) := by decide +kernel
theorem dX13_opens_16 : decode cX13_opens 16 = .ok (.iconst 0, 1) := by decide +kernel
theorem dX13_opens_17 : decode cX13_opens 17 = .ok (.putfield 125, 3) := by decide +kernel
theorem dX13_opens_20 : decode cX13_opens 20 = .ok (.aload_n 0, 1) := by decide +kernel
theorem dX13_opens_21 : decode cX13_opens 21 = .ok (.iconst (-1), 1) := by decide +kernel
theorem dX13_opens_22 : decode cX13_opens 22 = .ok (.putfield 134, 3) := by decide +kernel
theorem dX13_opens_25 : decode cX13_opens 25 = .ok (.return_, 1) := by decide +kernel
theorem dX13_goThrough_0 : decode cX13_goThrough 0 = .ok (.aload_n 0, 1) := by decide +kernel
theorem dX13_goThrough_1 : decode cX13_goThrough 1 = .ok (.aload_n 1, 1) := by decide +kernel
theorem dX13_goThrough_2 : decode cX13_goThrough 2 = .ok (.iload_n 2, 1) := by decide +kernel
theorem dX13_goThrough_3 : decode cX13_goThrough 3 = .ok (.iload_n 3, 1) := by decide +kernel
theorem dX13_goThrough_4 : decode cX13_goThrough 4 = .ok (.invokevirtual 213, 3) := by decide +kernel
theorem dX13_goThrough_7 : decode cX13_goThrough 7 = .ok (.aload_n 0, 1) := by decide +kernel
theorem dX13_goThrough_8 : decode cX13_goThrough 8 = .ok (.bipush 121, 2) := by decide +kernel
theorem dX13_goThrough_10 : decode cX13_goThrough 10 = .ok (.putfield 207, 3) := by decide +kernel
theorem dX13_goThrough_13 : decode cX13_goThrough 13 = .ok (.aload_n 0, 1) := by decide +kernel
theorem dX13_goThrough_14 : decode cX13_goThrough 14 = .ok (.iconst 0, 1) := by decide +kernel
theorem dX13_goThrough_15 : decode cX13_goThrough 15 = .ok (.putfield 137, 3) := by decide +kernel
theorem dX13_goThrough_18 : decode cX13_goThrough 18 = .ok (.aload_n 0, 1) := by decide +kernel
theorem dX13_goThrough_19 : decode cX13_goThrough 19 = .ok (.iconst 0, 1) := by decide +kernel
theorem dX13_goThrough_20 : decode cX13_goThrough 20 = .ok (.putfield 203, 3) := by decide +kernel
theorem dX13_goThrough_23 : decode cX13_goThrough 23 = .ok (.aload_n 0, 1) := by decide +kernel
theorem dX13_goThrough_24 : decode cX13_goThrough 24 = .ok (.iconst 0, 1) := by decide +kernel
theorem dX13_goThrough_25 : decode cX13_goThrough 25 = .ok (.putfield 210, 3) := by decide +kernel
theorem dX13_goThrough_28 : decode cX13_goThrough 28 = .ok (.aload_n 0, 1) := by decide +kernel
theorem dX13_goThrough_29 : decode cX13_goThrough 29 = .ok (.invokevirtual 217, 3) := by decide +kernel
theorem dX13_goThrough_32 : decode cX13_goThrough 32 = .ok (.aload_n 0, 1) := by decide +kernel
theorem dX13_goThrough_33 : decode cX13_goThrough 33 = .ok (.getfield 134, 3) := by decide +kernel
theorem dX13_goThrough_36 : decode cX13_goThrough 36 = .ok (.iconst (-1), 1) := by decide +kernel
theorem dX13_goThrough_37 : decode cX13_goThrough 37 = .ok (.if_icmp .ne 29, 3) := by decide +kernel
theorem dX13_goThrough_40 : decode cX13_goThrough 40 = .ok (.aload_n 0, 1) := by decide +kernel
theorem dX13_goThrough_41 : decode cX13_goThrough 41 = .ok (.invokevirtual 144, 3) := by decide +kernel
theorem dX13_goThrough_44 : decode cX13_goThrough 44 = .ok (.bipush 59, 2) := by decide +kernel
theorem dX13_goThrough_46 : decode cX13_goThrough 46 = .ok (.if_icmp .ne 20, 3) := by decide +kernel
theorem dX13_goThrough_49 : decode cX13_goThrough 49 = .ok (.aload_n 0, 1) := by decide +kernel
theorem dX13_goThrough_50 : decode cX13_goThrough 50 = .ok (.dup, 1) := by decide +kernel
theorem dX13_goThrough_51 : decode cX13_goThrough 51 = .ok (.getfield 125, 3) := by decide +kernel
theorem dX13_goThrough_54 : decode cX13_goThrough 54 = .ok (.iconst 1, 1) := by decide +kernel
theorem dX13_goThrough_55 : decode cX13_goThrough 55 = .ok (.iadd, 1) := by decide +kernel
theorem dX13_goThrough_56 : decode cX13_goThrough 56 = .ok (.putfield 125, 3) := by decide +kernel
theorem dX13_goThrough_59 : decode cX13_goThrough 59 = .ok (.aload_n 0, 1) := by decide +kernel
theorem dX13_goThrough_60 : decode cX13_goThrough 60 = .ok (.invokevirtual 217, 3) := by decide +kernel
theorem dX13_goThrough_63 : decode cX13_goThrough 63 = .ok (.goto (-31), 3) := by decide +kernel
theorem dX13_goThrough_66 : decode cX13_goThrough 66 = .ok (.aload_n 0, 1) := by decide +kernel
theorem dX13_goThrough_67 : decode cX13_goThrough 67 = .ok (.getfield 134, 3) := by decide +kernel
theorem dX13_goThrough_70 : decode cX13_goThrough 70 = .ok (.iconst (-1), 1) := by decide +kernel
theorem dX13_goThrough_71 : decode cX13_goThrough 71 = .ok (.if_icmp .ne 16, 3) := by decide +kernel
theorem dX13_goThrough_74 : decode cX13_goThrough 74 = .ok (.aload_n 0, 1) := by decide +kernel
theorem dX13_goThrough_75 : decode cX13_goThrough 75 = .ok (.invokevirtual 144, 3) := by decide +kernel
theorem dX13_goThrough_78 : decode cX13_goThrough 78 = .ok (.iconst (-1), 1) := by decide +kernel
theorem dX13_goThrough_79 : decode cX13_goThrough 79 = .ok (.if_icmp .eq 8, 3) := by decide +kernel
theorem dX13_goThrough_82 : decode cX13_goThrough 82 = .ok (.aload_n 0, 1) := by decide +kernel
theorem dX13_goThrough_83 : decode cX13_goThrough 83 = .ok (.invokevirtual 140, 3) := by decide +kernel
theorem dX13_goThrough_86 : decode cX13_goThrough 86 = .ok (.pop, 1) := by decide +kernel
theorem dX13_goThrough_87 : decode cX13_goThrough 87 = .ok (.return_, 1) := by decide +kernel
theorem dX13_here_0 : decode cX13_here 0 = .ok (.aload_n 0, 1) := by decide +kernel
theorem dX13_here_1 : decode cX13_here 1 = .ok (.getfield 125, 3) := by decide +kernel
theorem dX13_here_4 : decode cX13_here 4 = .ok (.aload_n 0, 1) := by decide +kernel
theorem dX13_here_5 : decode cX13_here 5 = .ok (.getfield 128, 3) := by decide +kernel
theorem dX13_here_8 : decode cX13_here 8 = .ok (.if_icmp .ge 24, 3) := by decide +kernel
theorem dX13_here_11 : decode cX13_here 11 = .ok (.aload_n 0, 1) := by decide +kernel
theorem dX13_here_12 : decode cX13_here 12 = .ok (.getfield 23, 3) := by decide +kernel
theorem dX13_here_15 : decode cX13_here 15 = .ok (.aload_n 0, 1) := by decide +kernel
theorem dX13_here_16 : decode cX13_here 16 = .ok (.getfield 131, 3) := by decide +kernel
theorem dX13_here_19 : decode cX13_here 19 = .ok (.aload_n 0, 1) := by decide +kernel
theorem dX13_here_20 : decode cX13_here 20 = .ok (.getfield 125, 3) := by decide +kernel
theorem dX13_here_23 : decode cX13_here 23 = .ok (.iadd, 1) := by decide +kernel
theorem dX13_here_24 : decode cX13_here 24 = .ok (.baload, 1) := by decide +kernel
theorem dX13_here_25 : decode cX13_here 25 = .ok (.sipush 255, 3) := by decide +kernel
theorem dX13_here_28 : decode cX13_here 28 = .ok (.iand, 1) := by decide +kernel
theorem dX13_here_29 : decode cX13_here 29 = .ok (.goto 4, 3) := by decide +kernel
theorem dX13_here_32 : decode cX13_here 32 = .ok (.iconst (-1), 1) := by decide +kernel
theorem dX13_here_33 : decode cX13_here 33 = .ok (.ireturn, 1) := by decide +kernel
theorem dX13_placeOf_0 : decode cX13_placeOf 0 = .ok (.iconst 0, 1) := by decide +kernel
theorem dX13_placeOf_1 : decode cX13_placeOf 1 = .ok (.istore_n 2, 1) := by decide +kernel
theorem dX13_placeOf_2 : decode cX13_placeOf 2 = .ok (.iload_n 2, 1) := by decide +kernel
theorem dX13_placeOf_3 : decode cX13_placeOf 3 = .ok (.aload_n 0, 1) := by decide +kernel
theorem dX13_placeOf_4 : decode cX13_placeOf 4 = .ok (.invokevirtual 105, 3) := by decide +kernel
theorem dX13_placeOf_7 : decode cX13_placeOf 7 = .ok (.if_icmp .ge 20, 3) := by decide +kernel
theorem dX13_placeOf_10 : decode cX13_placeOf 10 = .ok (.aload_n 0, 1) := by decide +kernel
theorem dX13_placeOf_11 : decode cX13_placeOf 11 = .ok (.iload_n 2, 1) := by decide +kernel
theorem dX13_placeOf_12 : decode cX13_placeOf 12 = .ok (.invokevirtual 111, 3) := by decide +kernel
theorem dX13_placeOf_15 : decode cX13_placeOf 15 = .ok (.iload_n 1, 1) := by decide +kernel
theorem dX13_placeOf_16 : decode cX13_placeOf 16 = .ok (.if_icmp .ne 5, 3) := by decide +kernel
theorem dX13_placeOf_19 : decode cX13_placeOf 19 = .ok (.iload_n 2, 1) := by decide +kernel
theorem dX13_placeOf_20 : decode cX13_placeOf 20 = .ok (.ireturn, 1) := by decide +kernel
theorem dX13_placeOf_21 : decode cX13_placeOf 21 = .ok (.iinc 2 1, 3) := by decide +kernel
theorem dX13_placeOf_24 : decode cX13_placeOf 24 = .ok (.goto (-22), 3) := by decide +kernel
theorem dX13_placeOf_27 : decode cX13_placeOf 27 = .ok (.iconst (-1), 1) := by decide +kernel
theorem dX13_placeOf_28 : decode cX13_placeOf 28 = .ok (.ireturn, 1) := by decide +kernel
theorem dX13_readItems_0 : decode cX13_readItems 0 = .ok (.iconst 0, 1) := by decide +kernel
theorem dX13_readItems_1 : decode cX13_readItems 1 = .ok (.istore 6, 2) := by decide +kernel
theorem dX13_readItems_3 : decode cX13_readItems 3 = .ok (.aload_n 3, 1) := by decide +kernel
theorem dX13_readItems_4 : decode cX13_readItems 4 = .ok (.aload_n 0, 1) := by decide +kernel
theorem dX13_readItems_5 : decode cX13_readItems 5 = .ok (.invokevirtual 144, 3) := by decide +kernel
theorem dX13_readItems_8 : decode cX13_readItems 8 = .ok (.invokestatic 220, 3) := by decide +kernel
theorem dX13_readItems_11 : decode cX13_readItems 11 = .ok (.istore 7, 2) := by decide +kernel
theorem dX13_readItems_13 : decode cX13_readItems 13 = .ok (.iload 7, 2) := by decide +kernel
theorem dX13_readItems_15 : decode cX13_readItems 15 = .ok (.iconst (-1), 1) := by decide +kernel
theorem dX13_readItems_16 : decode cX13_readItems 16 = .ok (.if_icmp .eq 216, 3) := by decide +kernel
theorem dX13_readItems_19 : decode cX13_readItems 19 = .ok (.aload_n 0, 1) := by decide +kernel
theorem dX13_readItems_20 : decode cX13_readItems 20 = .ok (.getfield 134, 3) := by decide +kernel
theorem dX13_readItems_23 : decode cX13_readItems 23 = .ok (.iconst (-1), 1) := by decide +kernel
theorem dX13_readItems_24 : decode cX13_readItems 24 = .ok (.if_icmp .ne 208, 3) := by decide +kernel
theorem dX13_readItems_27 : decode cX13_readItems 27 = .ok (.iload 6, 2) := by decide +kernel
theorem dX13_readItems_29 : decode cX13_readItems 29 = .ok (.iload 7, 2) := by decide +kernel
theorem dX13_readItems_31 : decode cX13_readItems 31 = .ok (.invokestatic 224, 3) := by decide +kernel
theorem dX13_readItems_34 : decode cX13_readItems 34 = .ok (.ifCond .eq 9, 3) := by decide +kernel
theorem dX13_readItems_37 : decode cX13_readItems 37 = .ok (.aload_n 0, 1) := by decide +kernel
theorem dX13_readItems_38 : decode cX13_readItems 38 = .ok (.invokevirtual 140, 3) := by decide +kernel
theorem dX13_readItems_41 : decode cX13_readItems 41 = .ok (.pop, 1) := by decide +kernel
theorem dX13_readItems_42 : decode cX13_readItems 42 = .ok (.return_, 1) := by decide +kernel
theorem dX13_readItems_43 : decode cX13_readItems 43 = .ok (.iload 6, 2) := by decide +kernel
theorem dX13_readItems_45 : decode cX13_readItems 45 = .ok (.iconst 1, 1) := by decide +kernel
theorem dX13_readItems_46 : decode cX13_readItems 46 = .ok (.iload 7, 2) := by decide +kernel
theorem dX13_readItems_48 : decode cX13_readItems 48 = .ok (.ishl, 1) := by decide +kernel
theorem dX13_readItems_49 : decode cX13_readItems 49 = .ok (.ior, 1) := by decide +kernel
theorem dX13_readItems_50 : decode cX13_readItems 50 = .ok (.istore 6, 2) := by decide +kernel
theorem dX13_readItems_52 : decode cX13_readItems 52 = .ok (.aload_n 0, 1) := by decide +kernel
theorem dX13_readItems_53 : decode cX13_readItems 53 = .ok (.dup, 1) := by decide +kernel
theorem dX13_readItems_54 : decode cX13_readItems 54 = .ok (.getfield 125, 3) := by decide +kernel
theorem dX13_readItems_57 : decode cX13_readItems 57 = .ok (.iconst 1, 1) := by decide +kernel
theorem dX13_readItems_58 : decode cX13_readItems 58 = .ok (.iadd, 1) := by decide +kernel
theorem dX13_readItems_59 : decode cX13_readItems 59 = .ok (.putfield 125, 3) := by decide +kernel
theorem dX13_readItems_62 : decode cX13_readItems 62 = .ok (.aload_n 0, 1) := by decide +kernel
theorem dX13_readItems_63 : decode cX13_readItems 63 = .ok (.invokevirtual 144, 3) := by decide +kernel
theorem dX13_readItems_66 : decode cX13_readItems 66 = .ok (.istore 8, 2) := by decide +kernel
theorem dX13_readItems_68 : decode cX13_readItems 68 = .ok (.aload_n 0, 1) := by decide +kernel
theorem dX13_readItems_69 : decode cX13_readItems 69 = .ok (.invokevirtual 174, 3) := by decide +kernel
theorem dX13_readItems_72 : decode cX13_readItems 72 = .ok (.ifCond .ne 9, 3) := by decide +kernel
theorem dX13_readItems_75 : decode cX13_readItems 75 = .ok (.aload_n 0, 1) := by decide +kernel
theorem dX13_readItems_76 : decode cX13_readItems 76 = .ok (.invokevirtual 140, 3) := by decide +kernel
theorem dX13_readItems_79 : decode cX13_readItems 79 = .ok (.pop, 1) := by decide +kernel
theorem dX13_readItems_80 : decode cX13_readItems 80 = .ok (.return_, 1) := by decide +kernel
theorem dX13_readItems_81 : decode cX13_readItems 81 = .ok (.iload 8, 2) := by decide +kernel
theorem dX13_readItems_83 : decode cX13_readItems 83 = .ok (.bipush 48, 2) := by decide +kernel
theorem dX13_readItems_85 : decode cX13_readItems 85 = .ok (.isub, 1) := by decide +kernel
theorem dX13_readItems_86 : decode cX13_readItems 86 = .ok (.istore 9, 2) := by decide +kernel
theorem dX13_readItems_88 : decode cX13_readItems 88 = .ok (.aload_n 0, 1) := by decide +kernel
theorem dX13_readItems_89 : decode cX13_readItems 89 = .ok (.dup, 1) := by decide +kernel
theorem dX13_readItems_90 : decode cX13_readItems 90 = .ok (.getfield 125, 3) := by decide +kernel
theorem dX13_readItems_93 : decode cX13_readItems 93 = .ok (.iconst 1, 1) := by decide +kernel
theorem dX13_readItems_94 : decode cX13_readItems 94 = .ok (.iadd, 1) := by decide +kernel
theorem dX13_readItems_95 : decode cX13_readItems 95 = .ok (.putfield 125, 3) := by decide +kernel
theorem dX13_readItems_98 : decode cX13_readItems 98 = .ok (.aload_n 0, 1) := by decide +kernel
theorem dX13_readItems_99 : decode cX13_readItems 99 = .ok (.invokevirtual 174, 3) := by decide +kernel
theorem dX13_readItems_102 : decode cX13_readItems 102 = .ok (.ifCond .eq 28, 3) := by decide +kernel
theorem dX13_readItems_105 : decode cX13_readItems 105 = .ok (.bipush 10, 2) := by decide +kernel
theorem dX13_readItems_107 : decode cX13_readItems 107 = .ok (.iload 9, 2) := by decide +kernel
theorem dX13_readItems_109 : decode cX13_readItems 109 = .ok (.imul, 1) := by decide +kernel
theorem dX13_readItems_110 : decode cX13_readItems 110 = .ok (.aload_n 0, 1) := by decide +kernel
theorem dX13_readItems_111 : decode cX13_readItems 111 = .ok (.invokevirtual 228, 3) := by decide +kernel
theorem dX13_readItems_114 : decode cX13_readItems 114 = .ok (.iadd, 1) := by decide +kernel
theorem dX13_readItems_115 : decode cX13_readItems 115 = .ok (.bipush 48, 2) := by decide +kernel
theorem dX13_readItems_117 : decode cX13_readItems 117 = .ok (.isub, 1) := by decide +kernel
theorem dX13_readItems_118 : decode cX13_readItems 118 = .ok (.istore 9, 2) := by decide +kernel
theorem dX13_readItems_120 : decode cX13_readItems 120 = .ok (.aload_n 0, 1) := by decide +kernel
theorem dX13_readItems_121 : decode cX13_readItems 121 = .ok (.dup, 1) := by decide +kernel
theorem dX13_readItems_122 : decode cX13_readItems 122 = .ok (.getfield 125, 3) := by decide +kernel
theorem dX13_readItems_125 : decode cX13_readItems 125 = .ok (.iconst 1, 1) := by decide +kernel
theorem dX13_readItems_126 : decode cX13_readItems 126 = .ok (.iadd, 1) := by decide +kernel
theorem dX13_readItems_127 : decode cX13_readItems 127 = .ok (.putfield 125, 3) := by decide +kernel
theorem dX13_readItems_130 : decode cX13_readItems 130 = .ok (.aload_n 0, 1) := by decide +kernel
theorem dX13_readItems_131 : decode cX13_readItems 131 = .ok (.invokevirtual 174, 3) := by decide +kernel
theorem dX13_readItems_134 : decode cX13_readItems 134 = .ok (.ifCond .eq 9, 3) := by decide +kernel
theorem dX13_readItems_137 : decode cX13_readItems 137 = .ok (.aload_n 0, 1) := by decide +kernel
theorem dX13_readItems_138 : decode cX13_readItems 138 = .ok (.invokevirtual 140, 3) := by decide +kernel
theorem dX13_readItems_141 : decode cX13_readItems 141 = .ok (.pop, 1) := by decide +kernel
theorem dX13_readItems_142 : decode cX13_readItems 142 = .ok (.return_, 1) := by decide +kernel
theorem dX13_readItems_143 : decode cX13_readItems 143 = .ok (.aload 5, 2) := by decide +kernel
theorem dX13_readItems_145 : decode cX13_readItems 145 = .ok (.iload 7, 2) := by decide +kernel
theorem dX13_readItems_147 : decode cX13_readItems 147 = .ok (.invokevirtual 111, 3) := by decide +kernel
theorem dX13_readItems_150 : decode cX13_readItems 150 = .ok (.bipush 104, 2) := by decide +kernel
theorem dX13_readItems_152 : decode cX13_readItems 152 = .ok (.if_icmp .ne 8, 3) := by decide +kernel
theorem dX13_readItems_155 : decode cX13_readItems 155 = .ok (.bipush 99, 2) := by decide +kernel
theorem dX13_readItems_157 : decode cX13_readItems 157 = .ok (.goto 13, 3) := by decide +kernel
theorem dX13_readItems_160 : decode cX13_readItems 160 = .ok (.aload 5, 2) := by decide +kernel
theorem dX13_readItems_162 : decode cX13_readItems 162 = .ok (.iload 7, 2) := by decide +kernel
theorem dX13_readItems_164 : decode cX13_readItems 164 = .ok (.invokevirtual 111, 3) := by decide +kernel
theorem dX13_readItems_167 : decode cX13_readItems 167 = .ok (.bipush 48, 2) := by decide +kernel
theorem dX13_readItems_169 : decode cX13_readItems 169 = .ok (.isub, 1) := by decide +kernel
theorem dX13_readItems_170 : decode cX13_readItems 170 = .ok (.istore 10, 2) := by decide +kernel
theorem dX13_readItems_172 : decode cX13_readItems 172 = .ok (.iload 9, 2) := by decide +kernel
theorem dX13_readItems_174 : decode cX13_readItems 174 = .ok (.i2l, 1) := by decide +kernel
theorem dX13_readItems_175 : decode cX13_readItems 175 = .ok (.aload 4, 2) := by decide +kernel
theorem dX13_readItems_177 : decode cX13_readItems 177 = .ok (.iload 7, 2) := by decide +kernel
theorem dX13_readItems_179 : decode cX13_readItems 179 = .ok (.invokevirtual 111, 3) := by decide +kernel
theorem dX13_readItems_182 : decode cX13_readItems 182 = .ok (.bipush 48, 2) := by decide +kernel
theorem dX13_readItems_184 : decode cX13_readItems 184 = .ok (.isub, 1) := by decide +kernel
theorem dX13_readItems_185 : decode cX13_readItems 185 = .ok (.i2l, 1) := by decide +kernel
theorem dX13_readItems_186 : decode cX13_readItems 186 = .ok (.iload 10, 2) := by decide +kernel
theorem dX13_readItems_188 : decode cX13_readItems 188 = .ok (.i2l, 1) := by decide +kernel
theorem dX13_readItems_189 : decode cX13_readItems 189 = .ok (.invokestatic 231, 3) := by decide +kernel
theorem dX13_readItems_192 : decode cX13_readItems 192 = .ok (.ifCond .ne 19, 3) := by decide +kernel
theorem dX13_readItems_195 : decode cX13_readItems 195 = .ok (.aload_n 0, 1) := by decide +kernel
theorem dX13_readItems_196 : decode cX13_readItems 196 = .ok (.dup, 1) := by decide +kernel
theorem dX13_readItems_197 : decode cX13_readItems 197 = .ok (.getfield 125, 3) := by decide +kernel
theorem dX13_readItems_200 : decode cX13_readItems 200 = .ok (.iconst 1, 1) := by decide +kernel
theorem dX13_readItems_201 : decode cX13_readItems 201 = .ok (.isub, 1) := by decide +kernel
theorem dX13_readItems_202 : decode cX13_readItems 202 = .ok (.putfield 125, 3) := by decide +kernel
theorem dX13_readItems_205 : decode cX13_readItems 205 = .ok (.aload_n 0, 1) := by decide +kernel
theorem dX13_readItems_206 : decode cX13_readItems 206 = .ok (.invokevirtual 140, 3) := by decide +kernel
theorem dX13_readItems_209 : decode cX13_readItems 209 = .ok (.pop, 1) := by decide +kernel
theorem dX13_readItems_210 : decode cX13_readItems 210 = .ok (.return_, 1) := by decide +kernel
theorem dX13_readItems_211 : decode cX13_readItems 211 = .ok (.aload_n 1, 1) := by decide +kernel
theorem dX13_readItems_212 : decode cX13_readItems 212 = .ok (.iload_n 2, 1) := by decide +kernel
theorem dX13_readItems_213 : decode cX13_readItems 213 = .ok (.iload 7, 2) := by decide +kernel
theorem dX13_readItems_215 : decode cX13_readItems 215 = .ok (.iadd, 1) := by decide +kernel
theorem dX13_readItems_216 : decode cX13_readItems 216 = .ok (.iload 9, 2) := by decide +kernel
theorem dX13_readItems_218 : decode cX13_readItems 218 = .ok (.iastore, 1) := by decide +kernel
theorem dX13_readItems_219 : decode cX13_readItems 219 = .ok (.aload_n 3, 1) := by decide +kernel
theorem dX13_readItems_220 : decode cX13_readItems 220 = .ok (.aload_n 0, 1) := by decide +kernel
theorem dX13_readItems_221 : decode cX13_readItems 221 = .ok (.invokevirtual 144, 3) := by decide +kernel
theorem dX13_readItems_224 : decode cX13_readItems 224 = .ok (.invokestatic 220, 3) := by decide +kernel
theorem dX13_readItems_227 : decode cX13_readItems 227 = .ok (.istore 7, 2) := by decide +kernel
theorem dX13_readItems_229 : decode cX13_readItems 229 = .ok (.goto (-216), 3) := by decide +kernel
theorem dX13_readItems_232 : decode cX13_readItems 232 = .ok (.return_, 1) := by decide +kernel
theorem dX13_leafAt_0 : decode cX13_leafAt 0 = .ok (.iload_n 1, 1) := by decide +kernel
theorem dX13_leafAt_1 : decode cX13_leafAt 1 = .ok (.bipush 12, 2) := by decide +kernel
theorem dX13_leafAt_3 : decode cX13_leafAt 3 = .ok (.imul, 1) := by decide +kernel
theorem dX13_leafAt_4 : decode cX13_leafAt 4 = .ok (.iload_n 2, 1) := by decide +kernel
theorem dX13_leafAt_5 : decode cX13_leafAt 5 = .ok (.iadd, 1) := by decide +kernel
theorem dX13_leafAt_6 : decode cX13_leafAt 6 = .ok (.bipush 7, 2) := by decide +kernel
theorem dX13_leafAt_8 : decode cX13_leafAt 8 = .ok (.imul, 1) := by decide +kernel
theorem dX13_leafAt_9 : decode cX13_leafAt 9 = .ok (.ireturn, 1) := by decide +kernel
theorem dX13_forkAt_0 : decode cX13_forkAt 0 = .ok (.iload_n 1, 1) := by decide +kernel
theorem dX13_forkAt_1 : decode cX13_forkAt 1 = .ok (.bipush 18, 2) := by decide +kernel
theorem dX13_forkAt_3 : decode cX13_forkAt 3 = .ok (.imul, 1) := by decide +kernel
theorem dX13_forkAt_4 : decode cX13_forkAt 4 = .ok (.iload_n 2, 1) := by decide +kernel
theorem dX13_forkAt_5 : decode cX13_forkAt 5 = .ok (.iadd, 1) := by decide +kernel
theorem dX13_forkAt_6 : decode cX13_forkAt 6 = .ok (.iconst 5, 1) := by decide +kernel
theorem dX13_forkAt_7 : decode cX13_forkAt 7 = .ok (.imul, 1) := by decide +kernel
theorem dX13_forkAt_8 : decode cX13_forkAt 8 = .ok (.ireturn, 1) := by decide +kernel
theorem dX13_branchAt_0 : decode cX13_branchAt 0 = .ok (.iload_n 1, 1) := by decide +kernel
theorem dX13_branchAt_1 : decode cX13_branchAt 1 = .ok (.bipush 18, 2) := by decide +kernel
theorem dX13_branchAt_3 : decode cX13_branchAt 3 = .ok (.imul, 1) := by decide +kernel
theorem dX13_branchAt_4 : decode cX13_branchAt 4 = .ok (.iload_n 2, 1) := by decide +kernel
theorem dX13_branchAt_5 : decode cX13_branchAt 5 = .ok (.iadd, 1) := by decide +kernel
theorem dX13_branchAt_6 : decode cX13_branchAt 6 = .ok (.iconst 4, 1) := by decide +kernel
theorem dX13_branchAt_7 : decode cX13_branchAt 7 = .ok (.imul, 1) := by decide +kernel
theorem dX13_branchAt_8 : decode cX13_branchAt 8 = .ok (.iload_n 3, 1) := by decide +kernel
theorem dX13_branchAt_9 : decode cX13_branchAt 9 = .ok (.iadd, 1) := by decide +kernel
theorem dX13_branchAt_10 : decode cX13_branchAt 10 = .ok (.bipush 6, 2) := by decide +kernel
theorem dX13_branchAt_12 : decode cX13_branchAt 12 = .ok (.imul, 1) := by decide +kernel
theorem dX13_branchAt_13 : decode cX13_branchAt 13 = .ok (.ireturn, 1) := by decide +kernel
theorem dX13_readNode_0 : decode cX13_readNode 0 = .ok (.aload_n 0, 1) := by decide +kernel
theorem dX13_readNode_1 : decode cX13_readNode 1 = .ok (.invokevirtual 144, 3) := by decide +kernel
theorem dX13_readNode_4 : decode cX13_readNode 4 = .ok (.istore 4, 2) := by decide +kernel
theorem dX13_readNode_6 : decode cX13_readNode 6 = .ok (.iload 4, 2) := by decide +kernel
theorem dX13_readNode_8 : decode cX13_readNode 8 = .ok (.bipush 108, 2) := by decide +kernel
theorem dX13_readNode_10 : decode cX13_readNode 10 = .ok (.if_icmp .ne 142, 3) := by decide +kernel
theorem dX13_readNode_13 : decode cX13_readNode 13 = .ok (.aload_n 0, 1) := by decide +kernel
theorem dX13_readNode_14 : decode cX13_readNode 14 = .ok (.getfield 46, 3) := by decide +kernel
theorem dX13_readNode_17 : decode cX13_readNode 17 = .ok (.iconst 3, 1) := by decide +kernel
theorem dX13_readNode_18 : decode cX13_readNode 18 = .ok (.iaload, 1) := by decide +kernel
theorem dX13_readNode_19 : decode cX13_readNode 19 = .ok (.bipush 12, 2) := by decide +kernel
theorem dX13_readNode_21 : decode cX13_readNode 21 = .ok (.if_icmp .ge 131, 3) := by decide +kernel
theorem dX13_readNode_24 : decode cX13_readNode 24 = .ok (.aload_n 0, 1) := by decide +kernel
theorem dX13_readNode_25 : decode cX13_readNode 25 = .ok (.getfield 46, 3) := by decide +kernel
theorem dX13_readNode_28 : decode cX13_readNode 28 = .ok (.iconst 3, 1) := by decide +kernel
theorem dX13_readNode_29 : decode cX13_readNode 29 = .ok (.iaload, 1) := by decide +kernel
theorem dX13_readNode_30 : decode cX13_readNode 30 = .ok (.istore 5, 2) := by decide +kernel
theorem dX13_readNode_32 : decode cX13_readNode 32 = .ok (.aload_n 0, 1) := by decide +kernel
theorem dX13_readNode_33 : decode cX13_readNode 33 = .ok (.iconst 3, 1) := by decide +kernel
theorem dX13_readNode_34 : decode cX13_readNode 34 = .ok (.iload 5, 2) := by decide +kernel
theorem dX13_readNode_36 : decode cX13_readNode 36 = .ok (.invokevirtual 235, 3) := by decide +kernel
theorem dX13_readNode_39 : decode cX13_readNode 39 = .ok (.istore 6, 2) := by decide +kernel
theorem dX13_readNode_41 : decode cX13_readNode 41 = .ok (.aload_n 0, 1) := by decide +kernel
theorem dX13_readNode_42 : decode cX13_readNode 42 = .ok (.getfield 46, 3) := by decide +kernel
theorem dX13_readNode_45 : decode cX13_readNode 45 = .ok (.iconst 3, 1) := by decide +kernel
theorem dX13_readNode_46 : decode cX13_readNode 46 = .ok (.dup2, 1) := by decide +kernel
theorem dX13_readNode_47 : decode cX13_readNode 47 = .ok (.iaload, 1) := by decide +kernel
theorem dX13_readNode_48 : decode cX13_readNode 48 = .ok (.iconst 1, 1) := by decide +kernel
theorem dX13_readNode_49 : decode cX13_readNode 49 = .ok (.iadd, 1) := by decide +kernel
theorem dX13_readNode_50 : decode cX13_readNode 50 = .ok (.iastore, 1) := by decide +kernel
theorem dX13_readNode_51 : decode cX13_readNode 51 = .ok (.aload_n 0, 1) := by decide +kernel
theorem dX13_readNode_52 : decode cX13_readNode 52 = .ok (.getfield 37, 3) := by decide +kernel
theorem dX13_readNode_55 : decode cX13_readNode 55 = .ok (.iload 6, 2) := by decide +kernel
theorem dX13_readNode_57 : decode cX13_readNode 57 = .ok (.bipush 10, 2) := by decide +kernel
theorem dX13_readNode_59 : decode cX13_readNode 59 = .ok (.iastore, 1) := by decide +kernel
theorem dX13_readNode_60 : decode cX13_readNode 60 = .ok (.aload_n 0, 1) := by decide +kernel
theorem dX13_readNode_61 : decode cX13_readNode 61 = .ok (.getfield 37, 3) := by decide +kernel
theorem dX13_readNode_64 : decode cX13_readNode 64 = .ok (.iload 6, 2) := by decide +kernel
theorem dX13_readNode_66 : decode cX13_readNode 66 = .ok (.iconst 1, 1) := by decide +kernel
theorem dX13_readNode_67 : decode cX13_readNode 67 = .ok (.iadd, 1) := by decide +kernel
theorem dX13_readNode_68 : decode cX13_readNode 68 = .ok (.bipush 50, 2) := by decide +kernel
theorem dX13_readNode_70 : decode cX13_readNode 70 = .ok (.iastore, 1) := by decide +kernel
theorem dX13_readNode_71 : decode cX13_readNode 71 = .ok (.aload_n 0, 1) := by decide +kernel
theorem dX13_readNode_72 : decode cX13_readNode 72 = .ok (.getfield 37, 3) := by decide +kernel
theorem dX13_readNode_75 : decode cX13_readNode 75 = .ok (.iload 6, 2) := by decide +kernel
theorem dX13_readNode_77 : decode cX13_readNode 77 = .ok (.iconst 2, 1) := by decide +kernel
theorem dX13_readNode_78 : decode cX13_readNode 78 = .ok (.iadd, 1) := by decide +kernel
theorem dX13_readNode_79 : decode cX13_readNode 79 = .ok (.bipush 40, 2) := by decide +kernel
theorem dX13_readNode_81 : decode cX13_readNode 81 = .ok (.iastore, 1) := by decide +kernel
theorem dX13_readNode_82 : decode cX13_readNode 82 = .ok (.aload_n 0, 1) := by decide +kernel
theorem dX13_readNode_83 : decode cX13_readNode 83 = .ok (.getfield 37, 3) := by decide +kernel
theorem dX13_readNode_86 : decode cX13_readNode 86 = .ok (.iload 6, 2) := by decide +kernel
theorem dX13_readNode_88 : decode cX13_readNode 88 = .ok (.iconst 3, 1) := by decide +kernel
theorem dX13_readNode_89 : decode cX13_readNode 89 = .ok (.iadd, 1) := by decide +kernel
theorem dX13_readNode_90 : decode cX13_readNode 90 = .ok (.iconst 0, 1) := by decide +kernel
theorem dX13_readNode_91 : decode cX13_readNode 91 = .ok (.iastore, 1) := by decide +kernel
theorem dX13_readNode_92 : decode cX13_readNode 92 = .ok (.aload_n 0, 1) := by decide +kernel
theorem dX13_readNode_93 : decode cX13_readNode 93 = .ok (.getfield 37, 3) := by decide +kernel
theorem dX13_readNode_96 : decode cX13_readNode 96 = .ok (.iload 6, 2) := by decide +kernel
theorem dX13_readNode_98 : decode cX13_readNode 98 = .ok (.iconst 4, 1) := by decide +kernel
theorem dX13_readNode_99 : decode cX13_readNode 99 = .ok (.iadd, 1) := by decide +kernel
theorem dX13_readNode_100 : decode cX13_readNode 100 = .ok (.iconst 5, 1) := by decide +kernel
theorem dX13_readNode_101 : decode cX13_readNode 101 = .ok (.iastore, 1) := by decide +kernel
theorem dX13_readNode_102 : decode cX13_readNode 102 = .ok (.aload_n 0, 1) := by decide +kernel
theorem dX13_readNode_103 : decode cX13_readNode 103 = .ok (.getfield 37, 3) := by decide +kernel
theorem dX13_readNode_106 : decode cX13_readNode 106 = .ok (.iload 6, 2) := by decide +kernel
theorem dX13_readNode_108 : decode cX13_readNode 108 = .ok (.iconst 5, 1) := by decide +kernel
theorem dX13_readNode_109 : decode cX13_readNode 109 = .ok (.iadd, 1) := by decide +kernel
theorem dX13_readNode_110 : decode cX13_readNode 110 = .ok (.iload_n 1, 1) := by decide +kernel
theorem dX13_readNode_111 : decode cX13_readNode 111 = .ok (.iastore, 1) := by decide +kernel
theorem dX13_readNode_112 : decode cX13_readNode 112 = .ok (.aload_n 0, 1) := by decide +kernel
theorem dX13_readNode_113 : decode cX13_readNode 113 = .ok (.getfield 37, 3) := by decide +kernel
theorem dX13_readNode_116 : decode cX13_readNode 116 = .ok (.iload 6, 2) := by decide +kernel
theorem dX13_readNode_118 : decode cX13_readNode 118 = .ok (.bipush 6, 2) := by decide +kernel
theorem dX13_readNode_120 : decode cX13_readNode 120 = .ok (.iadd, 1) := by decide +kernel
theorem dX13_readNode_121 : decode cX13_readNode 121 = .ok (.iload_n 2, 1) := by decide +kernel
theorem dX13_readNode_122 : decode cX13_readNode 122 = .ok (.iastore, 1) := by decide +kernel
theorem dX13_readNode_123 : decode cX13_readNode 123 = .ok (.aload_n 0, 1) := by decide +kernel
theorem dX13_readNode_124 : decode cX13_readNode 124 = .ok (.dup, 1) := by decide +kernel
theorem dX13_readNode_125 : decode cX13_readNode 125 = .ok (.getfield 125, 3) := by decide +kernel
theorem dX13_readNode_128 : decode cX13_readNode 128 = .ok (.iconst 1, 1) := by decide +kernel
theorem dX13_readNode_129 : decode cX13_readNode 129 = .ok (.iadd, 1) := by decide +kernel
theorem dX13_readNode_130 : decode cX13_readNode 130 = .ok (.putfield 125, 3) := by decide +kernel
theorem dX13_readNode_133 : decode cX13_readNode 133 = .ok (.aload_n 0, 1) := by decide +kernel
theorem dX13_readNode_134 : decode cX13_readNode 134 = .ok (.aload_n 0, 1) := by decide +kernel
theorem dX13_readNode_135 : decode cX13_readNode 135 = .ok (.getfield 37, 3) := by decide +kernel
theorem dX13_readNode_138 : decode cX13_readNode 138 = .ok (.iload 6, 2) := by decide +kernel
theorem dX13_readNode_140 : decode cX13_readNode 140 = .ok (.ldc 239, 2) := by decide +kernel
theorem dX13_readNode_142 : decode cX13_readNode 142 = .ok (.ldc 241, 2) := by decide +kernel
theorem dX13_readNode_144 : decode cX13_readNode 144 = .ok (.ldc 243, 2) := by decide +kernel
theorem dX13_readNode_146 : decode cX13_readNode 146 = .ok (.invokevirtual 245, 3) := by decide +kernel
theorem dX13_readNode_149 : decode cX13_readNode 149 = .ok (.iload 5, 2) := by decide +kernel
theorem dX13_readNode_151 : decode cX13_readNode 151 = .ok (.ireturn, 1) := by decide +kernel
theorem dX13_readNode_152 : decode cX13_readNode 152 = .ok (.iload 4, 2) := by decide +kernel
theorem dX13_readNode_154 : decode cX13_readNode 154 = .ok (.bipush 102, 2) := by decide +kernel
theorem dX13_readNode_156 : decode cX13_readNode 156 = .ok (.if_icmp .ne 20, 3) := by decide +kernel
theorem dX13_readNode_159 : decode cX13_readNode 159 = .ok (.iload_n 3, 1) := by decide +kernel
theorem dX13_readNode_160 : decode cX13_readNode 160 = .ok (.bipush 6, 2) := by decide +kernel
theorem dX13_readNode_162 : decode cX13_readNode 162 = .ok (.if_icmp .eq 14, 3) := by decide +kernel
theorem dX13_readNode_165 : decode cX13_readNode 165 = .ok (.aload_n 0, 1) := by decide +kernel
theorem dX13_readNode_166 : decode cX13_readNode 166 = .ok (.getfield 49, 3) := by decide +kernel
theorem dX13_readNode_169 : decode cX13_readNode 169 = .ok (.iconst 3, 1) := by decide +kernel
theorem dX13_readNode_170 : decode cX13_readNode 170 = .ok (.iaload, 1) := by decide +kernel
theorem dX13_readNode_171 : decode cX13_readNode 171 = .ok (.bipush 18, 2) := by decide +kernel
theorem dX13_readNode_173 : decode cX13_readNode 173 = .ok (.if_icmp .ne 10, 3) := by decide +kernel
theorem dX13_readNode_176 : decode cX13_readNode 176 = .ok (.aload_n 0, 1) := by decide +kernel
theorem dX13_readNode_177 : decode cX13_readNode 177 = .ok (.invokevirtual 140, 3) := by decide +kernel
theorem dX13_readNode_180 : decode cX13_readNode 180 = .ok (.pop, 1) := by decide +kernel
theorem dX13_readNode_181 : decode cX13_readNode 181 = .ok (.iconst (-1), 1) := by decide +kernel
theorem dX13_readNode_182 : decode cX13_readNode 182 = .ok (.ireturn, 1) := by decide +kernel
theorem dX13_readNode_183 : decode cX13_readNode 183 = .ok (.aload_n 0, 1) := by decide +kernel
theorem dX13_readNode_184 : decode cX13_readNode 184 = .ok (.getfield 49, 3) := by decide +kernel
theorem dX13_readNode_187 : decode cX13_readNode 187 = .ok (.iconst 3, 1) := by decide +kernel
theorem dX13_readNode_188 : decode cX13_readNode 188 = .ok (.iaload, 1) := by decide +kernel
theorem dX13_readNode_189 : decode cX13_readNode 189 = .ok (.istore 5, 2) := by decide +kernel
theorem dX13_readNode_191 : decode cX13_readNode 191 = .ok (.aload_n 0, 1) := by decide +kernel
theorem dX13_readNode_192 : decode cX13_readNode 192 = .ok (.iconst 3, 1) := by decide +kernel
theorem dX13_readNode_193 : decode cX13_readNode 193 = .ok (.iload 5, 2) := by decide +kernel
theorem dX13_readNode_195 : decode cX13_readNode 195 = .ok (.invokevirtual 249, 3) := by decide +kernel
theorem dX13_readNode_198 : decode cX13_readNode 198 = .ok (.istore 6, 2) := by decide +kernel
theorem dX13_readNode_200 : decode cX13_readNode 200 = .ok (.aload_n 0, 1) := by decide +kernel
theorem dX13_readNode_201 : decode cX13_readNode 201 = .ok (.getfield 49, 3) := by decide +kernel
theorem dX13_readNode_204 : decode cX13_readNode 204 = .ok (.iconst 3, 1) := by decide +kernel
theorem dX13_readNode_205 : decode cX13_readNode 205 = .ok (.dup2, 1) := by decide +kernel
theorem dX13_readNode_206 : decode cX13_readNode 206 = .ok (.iaload, 1) := by decide +kernel
theorem dX13_readNode_207 : decode cX13_readNode 207 = .ok (.iconst 1, 1) := by decide +kernel
theorem dX13_readNode_208 : decode cX13_readNode 208 = .ok (.iadd, 1) := by decide +kernel
theorem dX13_readNode_209 : decode cX13_readNode 209 = .ok (.iastore, 1) := by decide +kernel
theorem dX13_readNode_210 : decode cX13_readNode 210 = .ok (.aload_n 0, 1) := by decide +kernel
theorem dX13_readNode_211 : decode cX13_readNode 211 = .ok (.getfield 40, 3) := by decide +kernel
theorem dX13_readNode_214 : decode cX13_readNode 214 = .ok (.iload 6, 2) := by decide +kernel
theorem dX13_readNode_216 : decode cX13_readNode 216 = .ok (.bipush 20, 2) := by decide +kernel
theorem dX13_readNode_218 : decode cX13_readNode 218 = .ok (.iastore, 1) := by decide +kernel
theorem dX13_readNode_219 : decode cX13_readNode 219 = .ok (.aload_n 0, 1) := by decide +kernel
theorem dX13_readNode_220 : decode cX13_readNode 220 = .ok (.getfield 40, 3) := by decide +kernel
theorem dX13_readNode_223 : decode cX13_readNode 223 = .ok (.iload 6, 2) := by decide +kernel
theorem dX13_readNode_225 : decode cX13_readNode 225 = .ok (.iconst 1, 1) := by decide +kernel
theorem dX13_readNode_226 : decode cX13_readNode 226 = .ok (.iadd, 1) := by decide +kernel
theorem dX13_readNode_227 : decode cX13_readNode 227 = .ok (.iconst 0, 1) := by decide +kernel
theorem dX13_readNode_228 : decode cX13_readNode 228 = .ok (.iastore, 1) := by decide +kernel
theorem dX13_readNode_229 : decode cX13_readNode 229 = .ok (.aload_n 0, 1) := by decide +kernel
theorem dX13_readNode_230 : decode cX13_readNode 230 = .ok (.getfield 40, 3) := by decide +kernel
theorem dX13_readNode_233 : decode cX13_readNode 233 = .ok (.iload 6, 2) := by decide +kernel
theorem dX13_readNode_235 : decode cX13_readNode 235 = .ok (.iconst 2, 1) := by decide +kernel
theorem dX13_readNode_236 : decode cX13_readNode 236 = .ok (.iadd, 1) := by decide +kernel
theorem dX13_readNode_237 : decode cX13_readNode 237 = .ok (.iconst 0, 1) := by decide +kernel
theorem dX13_readNode_238 : decode cX13_readNode 238 = .ok (.iastore, 1) := by decide +kernel
theorem dX13_readNode_239 : decode cX13_readNode 239 = .ok (.aload_n 0, 1) := by decide +kernel
theorem dX13_readNode_240 : decode cX13_readNode 240 = .ok (.getfield 40, 3) := by decide +kernel
theorem dX13_readNode_243 : decode cX13_readNode 243 = .ok (.iload 6, 2) := by decide +kernel
theorem dX13_readNode_245 : decode cX13_readNode 245 = .ok (.iconst 3, 1) := by decide +kernel
theorem dX13_readNode_246 : decode cX13_readNode 246 = .ok (.iadd, 1) := by decide +kernel
theorem dX13_readNode_247 : decode cX13_readNode 247 = .ok (.iload_n 1, 1) := by decide +kernel
theorem dX13_readNode_248 : decode cX13_readNode 248 = .ok (.iastore, 1) := by decide +kernel
theorem dX13_readNode_249 : decode cX13_readNode 249 = .ok (.aload_n 0, 1) := by decide +kernel
theorem dX13_readNode_250 : decode cX13_readNode 250 = .ok (.getfield 40, 3) := by decide +kernel
theorem dX13_readNode_253 : decode cX13_readNode 253 = .ok (.iload 6, 2) := by decide +kernel
theorem dX13_readNode_255 : decode cX13_readNode 255 = .ok (.iconst 4, 1) := by decide +kernel
theorem dX13_readNode_256 : decode cX13_readNode 256 = .ok (.iadd, 1) := by decide +kernel
theorem dX13_readNode_257 : decode cX13_readNode 257 = .ok (.iload_n 2, 1) := by decide +kernel
theorem dX13_readNode_258 : decode cX13_readNode 258 = .ok (.iastore, 1) := by decide +kernel
theorem dX13_readNode_259 : decode cX13_readNode 259 = .ok (.aload_n 0, 1) := by decide +kernel
theorem dX13_readNode_260 : decode cX13_readNode 260 = .ok (.dup, 1) := by decide +kernel
theorem dX13_readNode_261 : decode cX13_readNode 261 = .ok (.getfield 125, 3) := by decide +kernel
theorem dX13_readNode_264 : decode cX13_readNode 264 = .ok (.iconst 1, 1) := by decide +kernel
theorem dX13_readNode_265 : decode cX13_readNode 265 = .ok (.iadd, 1) := by decide +kernel
theorem dX13_readNode_266 : decode cX13_readNode 266 = .ok (.putfield 125, 3) := by decide +kernel
theorem dX13_readNode_269 : decode cX13_readNode 269 = .ok (.aload_n 0, 1) := by decide +kernel
theorem dX13_readNode_270 : decode cX13_readNode 270 = .ok (.aload_n 0, 1) := by decide +kernel
theorem dX13_readNode_271 : decode cX13_readNode 271 = .ok (.getfield 40, 3) := by decide +kernel
theorem dX13_readNode_274 : decode cX13_readNode 274 = .ok (.iload 6, 2) := by decide +kernel
theorem dX13_readNode_276 : decode cX13_readNode 276 = .ok (.ldc 252, 2) := by decide +kernel
theorem dX13_readNode_278 : decode cX13_readNode 278 = .ok (.ldc 254, 2) := by decide +kernel
theorem dX13_readNode_280 : decode cX13_readNode 280 = .ok (.ldc_w 256, 3) := by decide +kernel
theorem dX13_readNode_283 : decode cX13_readNode 283 = .ok (.invokevirtual 245, 3) := by decide +kernel
theorem dX13_readNode_286 : decode cX13_readNode 286 = .ok (.aload_n 0, 1) := by decide +kernel
theorem dX13_readNode_287 : decode cX13_readNode 287 = .ok (.getfield 134, 3) := by decide +kernel
theorem dX13_readNode_290 : decode cX13_readNode 290 = .ok (.iconst (-1), 1) := by decide +kernel
theorem dX13_readNode_291 : decode cX13_readNode 291 = .ok (.if_icmp .eq 5, 3) := by decide +kernel
theorem dX13_readNode_294 : decode cX13_readNode 294 = .ok (.iconst (-1), 1) := by decide +kernel
theorem dX13_readNode_295 : decode cX13_readNode 295 = .ok (.ireturn, 1) := by decide +kernel
theorem dX13_readNode_296 : decode cX13_readNode 296 = .ok (.aload_n 0, 1) := by decide +kernel
theorem dX13_readNode_297 : decode cX13_readNode 297 = .ok (.invokevirtual 144, 3) := by decide +kernel
theorem dX13_readNode_300 : decode cX13_readNode 300 = .ok (.bipush 40, 2) := by decide +kernel
theorem dX13_readNode_302 : decode cX13_readNode 302 = .ok (.if_icmp .eq 10, 3) := by decide +kernel
theorem dX13_readNode_305 : decode cX13_readNode 305 = .ok (.aload_n 0, 1) := by decide +kernel
theorem dX13_readNode_306 : decode cX13_readNode 306 = .ok (.invokevirtual 140, 3) := by decide +kernel
theorem dX13_readNode_309 : decode cX13_readNode 309 = .ok (.pop, 1) := by decide +kernel
theorem dX13_readNode_310 : decode cX13_readNode 310 = .ok (.iconst (-1), 1) := by decide +kernel
theorem dX13_readNode_311 : decode cX13_readNode 311 = .ok (.ireturn, 1) := by decide +kernel
theorem dX13_readNode_312 : decode cX13_readNode 312 = .ok (.aload_n 0, 1) := by decide +kernel
theorem dX13_readNode_313 : decode cX13_readNode 313 = .ok (.dup, 1) := by decide +kernel
theorem dX13_readNode_314 : decode cX13_readNode 314 = .ok (.getfield 125, 3) := by decide +kernel
theorem dX13_readNode_317 : decode cX13_readNode 317 = .ok (.iconst 1, 1) := by decide +kernel
theorem dX13_readNode_318 : decode cX13_readNode 318 = .ok (.iadd, 1) := by decide +kernel
theorem dX13_readNode_319 : decode cX13_readNode 319 = .ok (.putfield 125, 3) := by decide +kernel
theorem dX13_readNode_322 : decode cX13_readNode 322 = .ok (.aload_n 0, 1) := by decide +kernel
theorem dX13_readNode_323 : decode cX13_readNode 323 = .ok (.iload 5, 2) := by decide +kernel
theorem dX13_readNode_325 : decode cX13_readNode 325 = .ok (.iload_n 3, 1) := by decide +kernel
theorem dX13_readNode_326 : decode cX13_readNode 326 = .ok (.invokevirtual 258, 3) := by decide +kernel
theorem dX13_readNode_329 : decode cX13_readNode 329 = .ok (.bipush 100, 2) := by decide +kernel
theorem dX13_readNode_331 : decode cX13_readNode 331 = .ok (.iload 5, 2) := by decide +kernel
theorem dX13_readNode_333 : decode cX13_readNode 333 = .ok (.iadd, 1) := by decide +kernel
theorem dX13_readNode_334 : decode cX13_readNode 334 = .ok (.ireturn, 1) := by decide +kernel
theorem dX13_readBranches_0 : decode cX13_readBranches 0 = .ok (.iconst 1, 1) := by decide +kernel
theorem dX13_readBranches_1 : decode cX13_readBranches 1 = .ok (.istore_n 3, 1) := by decide +kernel
theorem dX13_readBranches_2 : decode cX13_readBranches 2 = .ok (.iconst 0, 1) := by decide +kernel
theorem dX13_readBranches_3 : decode cX13_readBranches 3 = .ok (.istore 4, 2) := by decide +kernel
theorem dX13_readBranches_5 : decode cX13_readBranches 5 = .ok (.iload_n 3, 1) := by decide +kernel
theorem dX13_readBranches_6 : decode cX13_readBranches 6 = .ok (.ifCond .eq 193, 3) := by decide +kernel
theorem dX13_readBranches_9 : decode cX13_readBranches 9 = .ok (.aload_n 0, 1) := by decide +kernel
theorem dX13_readBranches_10 : decode cX13_readBranches 10 = .ok (.iconst 3, 1) := by decide +kernel
theorem dX13_readBranches_11 : decode cX13_readBranches 11 = .ok (.iload_n 1, 1) := by decide +kernel
theorem dX13_readBranches_12 : decode cX13_readBranches 12 = .ok (.iload 4, 2) := by decide +kernel
theorem dX13_readBranches_14 : decode cX13_readBranches 14 = .ok (.invokevirtual 262, 3) := by decide +kernel
theorem dX13_readBranches_17 : decode cX13_readBranches 17 = .ok (.istore 5, 2) := by decide +kernel
theorem dX13_readBranches_19 : decode cX13_readBranches 19 = .ok (.aload_n 0, 1) := by decide +kernel
theorem dX13_readBranches_20 : decode cX13_readBranches 20 = .ok (.getfield 43, 3) := by decide +kernel
theorem dX13_readBranches_23 : decode cX13_readBranches 23 = .ok (.iload 5, 2) := by decide +kernel
theorem dX13_readBranches_25 : decode cX13_readBranches 25 = .ok (.iconst 1, 1) := by decide +kernel
theorem dX13_readBranches_26 : decode cX13_readBranches 26 = .ok (.iastore, 1) := by decide +kernel
theorem dX13_readBranches_27 : decode cX13_readBranches 27 = .ok (.aload_n 0, 1) := by decide +kernel
theorem dX13_readBranches_28 : decode cX13_readBranches 28 = .ok (.getfield 43, 3) := by decide +kernel
theorem dX13_readBranches_31 : decode cX13_readBranches 31 = .ok (.iload 5, 2) := by decide +kernel
theorem dX13_readBranches_33 : decode cX13_readBranches 33 = .ok (.iconst 1, 1) := by decide +kernel
theorem dX13_readBranches_34 : decode cX13_readBranches 34 = .ok (.iadd, 1) := by decide +kernel
theorem dX13_readBranches_35 : decode cX13_readBranches 35 = .ok (.iconst 0, 1) := by decide +kernel
theorem dX13_readBranches_36 : decode cX13_readBranches 36 = .ok (.iastore, 1) := by decide +kernel
theorem dX13_readBranches_37 : decode cX13_readBranches 37 = .ok (.aload_n 0, 1) := by decide +kernel
theorem dX13_readBranches_38 : decode cX13_readBranches 38 = .ok (.getfield 43, 3) := by decide +kernel
theorem dX13_readBranches_41 : decode cX13_readBranches 41 = .ok (.iload 5, 2) := by decide +kernel
theorem dX13_readBranches_43 : decode cX13_readBranches 43 = .ok (.iconst 2, 1) := by decide +kernel
theorem dX13_readBranches_44 : decode cX13_readBranches 44 = .ok (.iadd, 1) := by decide +kernel
theorem dX13_readBranches_45 : decode cX13_readBranches 45 = .ok (.iconst 0, 1) := by decide +kernel
theorem dX13_readBranches_46 : decode cX13_readBranches 46 = .ok (.iastore, 1) := by decide +kernel
theorem dX13_readBranches_47 : decode cX13_readBranches 47 = .ok (.aload_n 0, 1) := by decide +kernel
theorem dX13_readBranches_48 : decode cX13_readBranches 48 = .ok (.getfield 43, 3) := by decide +kernel
theorem dX13_readBranches_51 : decode cX13_readBranches 51 = .ok (.iload 5, 2) := by decide +kernel
theorem dX13_readBranches_53 : decode cX13_readBranches 53 = .ok (.iconst 3, 1) := by decide +kernel
theorem dX13_readBranches_54 : decode cX13_readBranches 54 = .ok (.iadd, 1) := by decide +kernel
theorem dX13_readBranches_55 : decode cX13_readBranches 55 = .ok (.iconst 0, 1) := by decide +kernel
theorem dX13_readBranches_56 : decode cX13_readBranches 56 = .ok (.iastore, 1) := by decide +kernel
theorem dX13_readBranches_57 : decode cX13_readBranches 57 = .ok (.aload_n 0, 1) := by decide +kernel
theorem dX13_readBranches_58 : decode cX13_readBranches 58 = .ok (.getfield 43, 3) := by decide +kernel
theorem dX13_readBranches_61 : decode cX13_readBranches 61 = .ok (.iload 5, 2) := by decide +kernel
theorem dX13_readBranches_63 : decode cX13_readBranches 63 = .ok (.iconst 4, 1) := by decide +kernel
theorem dX13_readBranches_64 : decode cX13_readBranches 64 = .ok (.iadd, 1) := by decide +kernel
theorem dX13_readBranches_65 : decode cX13_readBranches 65 = .ok (.iconst (-1), 1) := by decide +kernel
theorem dX13_readBranches_66 : decode cX13_readBranches 66 = .ok (.iastore, 1) := by decide +kernel
theorem dX13_readBranches_67 : decode cX13_readBranches 67 = .ok (.aload_n 0, 1) := by decide +kernel
theorem dX13_readBranches_68 : decode cX13_readBranches 68 = .ok (.aload_n 0, 1) := by decide +kernel
theorem dX13_readBranches_69 : decode cX13_readBranches 69 = .ok (.getfield 43, 3) := by decide +kernel
theorem dX13_readBranches_72 : decode cX13_readBranches 72 = .ok (.iload 5, 2) := by decide +kernel
theorem dX13_readBranches_74 : decode cX13_readBranches 74 = .ok (.ldc_w 266, 3) := by decide +kernel
theorem dX13_readBranches_77 : decode cX13_readBranches 77 = .ok (.ldc_w 268, 3) := by decide +kernel
theorem dX13_readBranches_80 : decode cX13_readBranches 80 = .ok (.ldc_w 270, 3) := by decide +kernel
theorem dX13_readBranches_83 : decode cX13_readBranches 83 = .ok (.invokevirtual 245, 3) := by decide +kernel
theorem dX13_readBranches_86 : decode cX13_readBranches 86 = .ok (.aload_n 0, 1) := by decide +kernel
theorem dX13_readBranches_87 : decode cX13_readBranches 87 = .ok (.getfield 134, 3) := by decide +kernel
theorem dX13_readBranches_90 : decode cX13_readBranches 90 = .ok (.iconst (-1), 1) := by decide +kernel
theorem dX13_readBranches_91 : decode cX13_readBranches 91 = .ok (.if_icmp .eq 4, 3) := by decide +kernel
theorem dX13_readBranches_94 : decode cX13_readBranches 94 = .ok (.return_, 1) := by decide +kernel
theorem dX13_readBranches_95 : decode cX13_readBranches 95 = .ok (.aload_n 0, 1) := by decide +kernel
theorem dX13_readBranches_96 : decode cX13_readBranches 96 = .ok (.invokevirtual 144, 3) := by decide +kernel
theorem dX13_readBranches_99 : decode cX13_readBranches 99 = .ok (.bipush 58, 2) := by decide +kernel
theorem dX13_readBranches_101 : decode cX13_readBranches 101 = .ok (.if_icmp .eq 9, 3) := by decide +kernel
theorem dX13_readBranches_104 : decode cX13_readBranches 104 = .ok (.aload_n 0, 1) := by decide +kernel
theorem dX13_readBranches_105 : decode cX13_readBranches 105 = .ok (.invokevirtual 140, 3) := by decide +kernel
theorem dX13_readBranches_108 : decode cX13_readBranches 108 = .ok (.pop, 1) := by decide +kernel
theorem dX13_readBranches_109 : decode cX13_readBranches 109 = .ok (.return_, 1) := by decide +kernel
theorem dX13_readBranches_110 : decode cX13_readBranches 110 = .ok (.aload_n 0, 1) := by decide +kernel
theorem dX13_readBranches_111 : decode cX13_readBranches 111 = .ok (.dup, 1) := by decide +kernel
theorem dX13_readBranches_112 : decode cX13_readBranches 112 = .ok (.getfield 125, 3) := by decide +kernel
theorem dX13_readBranches_115 : decode cX13_readBranches 115 = .ok (.iconst 1, 1) := by decide +kernel
theorem dX13_readBranches_116 : decode cX13_readBranches 116 = .ok (.iadd, 1) := by decide +kernel
theorem dX13_readBranches_117 : decode cX13_readBranches 117 = .ok (.putfield 125, 3) := by decide +kernel
theorem dX13_readBranches_120 : decode cX13_readBranches 120 = .ok (.aload_n 0, 1) := by decide +kernel
theorem dX13_readBranches_121 : decode cX13_readBranches 121 = .ok (.getfield 43, 3) := by decide +kernel
theorem dX13_readBranches_124 : decode cX13_readBranches 124 = .ok (.iload 5, 2) := by decide +kernel
theorem dX13_readBranches_126 : decode cX13_readBranches 126 = .ok (.iconst 5, 1) := by decide +kernel
theorem dX13_readBranches_127 : decode cX13_readBranches 127 = .ok (.iadd, 1) := by decide +kernel
theorem dX13_readBranches_128 : decode cX13_readBranches 128 = .ok (.aload_n 0, 1) := by decide +kernel
theorem dX13_readBranches_129 : decode cX13_readBranches 129 = .ok (.iload_n 1, 1) := by decide +kernel
theorem dX13_readBranches_130 : decode cX13_readBranches 130 = .ok (.iload 4, 2) := by decide +kernel
theorem dX13_readBranches_132 : decode cX13_readBranches 132 = .ok (.iload_n 2, 1) := by decide +kernel
theorem dX13_readBranches_133 : decode cX13_readBranches 133 = .ok (.iconst 1, 1) := by decide +kernel
theorem dX13_readBranches_134 : decode cX13_readBranches 134 = .ok (.iadd, 1) := by decide +kernel
theorem dX13_readBranches_135 : decode cX13_readBranches 135 = .ok (.invokevirtual 272, 3) := by decide +kernel
theorem dX13_readBranches_138 : decode cX13_readBranches 138 = .ok (.iastore, 1) := by decide +kernel
theorem dX13_readBranches_139 : decode cX13_readBranches 139 = .ok (.aload_n 0, 1) := by decide +kernel
theorem dX13_readBranches_140 : decode cX13_readBranches 140 = .ok (.getfield 134, 3) := by decide +kernel
theorem dX13_readBranches_143 : decode cX13_readBranches 143 = .ok (.iconst (-1), 1) := by decide +kernel
theorem dX13_readBranches_144 : decode cX13_readBranches 144 = .ok (.if_icmp .eq 4, 3) := by decide +kernel
theorem dX13_readBranches_147 : decode cX13_readBranches 147 = .ok (.return_, 1) := by decide +kernel
theorem dX13_readBranches_148 : decode cX13_readBranches 148 = .ok (.iinc 4 1, 3) := by decide +kernel
theorem dX13_readBranches_151 : decode cX13_readBranches 151 = .ok (.aload_n 0, 1) := by decide +kernel
theorem dX13_readBranches_152 : decode cX13_readBranches 152 = .ok (.invokevirtual 144, 3) := by decide +kernel
theorem dX13_readBranches_155 : decode cX13_readBranches 155 = .ok (.bipush 59, 2) := by decide +kernel
theorem dX13_readBranches_157 : decode cX13_readBranches 157 = .ok (.if_icmp .ne 7, 3) := by decide +kernel
theorem dX13_readBranches_160 : decode cX13_readBranches 160 = .ok (.iconst 1, 1) := by decide +kernel
theorem dX13_readBranches_161 : decode cX13_readBranches 161 = .ok (.goto 4, 3) := by decide +kernel
theorem dX13_readBranches_164 : decode cX13_readBranches 164 = .ok (.iconst 0, 1) := by decide +kernel
theorem dX13_readBranches_165 : decode cX13_readBranches 165 = .ok (.istore_n 3, 1) := by decide +kernel
theorem dX13_readBranches_166 : decode cX13_readBranches 166 = .ok (.iload_n 3, 1) := by decide +kernel
theorem dX13_readBranches_167 : decode cX13_readBranches 167 = .ok (.ifCond .eq 15, 3) := by decide +kernel
theorem dX13_readBranches_170 : decode cX13_readBranches 170 = .ok (.iload 4, 2) := by decide +kernel
theorem dX13_readBranches_172 : decode cX13_readBranches 172 = .ok (.iconst 4, 1) := by decide +kernel
theorem dX13_readBranches_173 : decode cX13_readBranches 173 = .ok (.if_icmp .ne 9, 3) := by decide +kernel
theorem dX13_readBranches_176 : decode cX13_readBranches 176 = .ok (.aload_n 0, 1) := by decide +kernel
theorem dX13_readBranches_177 : decode cX13_readBranches 177 = .ok (.invokevirtual 140, 3) := by decide +kernel
theorem dX13_readBranches_180 : decode cX13_readBranches 180 = .ok (.pop, 1) := by decide +kernel
theorem dX13_readBranches_181 : decode cX13_readBranches 181 = .ok (.return_, 1) := by decide +kernel
theorem dX13_readBranches_182 : decode cX13_readBranches 182 = .ok (.iload_n 3, 1) := by decide +kernel
theorem dX13_readBranches_183 : decode cX13_readBranches 183 = .ok (.ifCond .eq 13, 3) := by decide +kernel
theorem dX13_readBranches_186 : decode cX13_readBranches 186 = .ok (.aload_n 0, 1) := by decide +kernel
theorem dX13_readBranches_187 : decode cX13_readBranches 187 = .ok (.dup, 1) := by decide +kernel
theorem dX13_readBranches_188 : decode cX13_readBranches 188 = .ok (.getfield 125, 3) := by decide +kernel
theorem dX13_readBranches_191 : decode cX13_readBranches 191 = .ok (.iconst 1, 1) := by decide +kernel
theorem dX13_readBranches_192 : decode cX13_readBranches 192 = .ok (.iadd, 1) := by decide +kernel
theorem dX13_readBranches_193 : decode cX13_readBranches 193 = .ok (.putfield 125, 3) := by decide +kernel
theorem dX13_readBranches_196 : decode cX13_readBranches 196 = .ok (.goto (-191), 3) := by decide +kernel
theorem dX13_readBranches_199 : decode cX13_readBranches 199 = .ok (.aload_n 0, 1) := by decide +kernel
theorem dX13_readBranches_200 : decode cX13_readBranches 200 = .ok (.getfield 40, 3) := by decide +kernel
theorem dX13_readBranches_203 : decode cX13_readBranches 203 = .ok (.aload_n 0, 1) := by decide +kernel
theorem dX13_readBranches_204 : decode cX13_readBranches 204 = .ok (.iconst 3, 1) := by decide +kernel
theorem dX13_readBranches_205 : decode cX13_readBranches 205 = .ok (.iload_n 1, 1) := by decide +kernel
theorem dX13_readBranches_206 : decode cX13_readBranches 206 = .ok (.invokevirtual 249, 3) := by decide +kernel
theorem dX13_readBranches_209 : decode cX13_readBranches 209 = .ok (.iconst 2, 1) := by decide +kernel
theorem dX13_readBranches_210 : decode cX13_readBranches 210 = .ok (.iadd, 1) := by decide +kernel
theorem dX13_readBranches_211 : decode cX13_readBranches 211 = .ok (.iload 4, 2) := by decide +kernel
theorem dX13_readBranches_213 : decode cX13_readBranches 213 = .ok (.iastore, 1) := by decide +kernel
theorem dX13_readBranches_214 : decode cX13_readBranches 214 = .ok (.aload_n 0, 1) := by decide +kernel
theorem dX13_readBranches_215 : decode cX13_readBranches 215 = .ok (.invokevirtual 144, 3) := by decide +kernel
theorem dX13_readBranches_218 : decode cX13_readBranches 218 = .ok (.bipush 41, 2) := by decide +kernel
theorem dX13_readBranches_220 : decode cX13_readBranches 220 = .ok (.if_icmp .ne 9, 3) := by decide +kernel
theorem dX13_readBranches_223 : decode cX13_readBranches 223 = .ok (.iload 4, 2) := by decide +kernel
theorem dX13_readBranches_225 : decode cX13_readBranches 225 = .ok (.iconst 2, 1) := by decide +kernel
theorem dX13_readBranches_226 : decode cX13_readBranches 226 = .ok (.if_icmp .ge 9, 3) := by decide +kernel
theorem dX13_readBranches_229 : decode cX13_readBranches 229 = .ok (.aload_n 0, 1) := by decide +kernel
theorem dX13_readBranches_230 : decode cX13_readBranches 230 = .ok (.invokevirtual 140, 3) := by decide +kernel
theorem dX13_readBranches_233 : decode cX13_readBranches 233 = .ok (.pop, 1) := by decide +kernel
theorem dX13_readBranches_234 : decode cX13_readBranches 234 = .ok (.return_, 1) := by decide +kernel
theorem dX13_readBranches_235 : decode cX13_readBranches 235 = .ok (.aload_n 0, 1) := by decide +kernel
theorem dX13_readBranches_236 : decode cX13_readBranches 236 = .ok (.dup, 1) := by decide +kernel
theorem dX13_readBranches_237 : decode cX13_readBranches 237 = .ok (.getfield 125, 3) := by decide +kernel
theorem dX13_readBranches_240 : decode cX13_readBranches 240 = .ok (.iconst 1, 1) := by decide +kernel
theorem dX13_readBranches_241 : decode cX13_readBranches 241 = .ok (.iadd, 1) := by decide +kernel
theorem dX13_readBranches_242 : decode cX13_readBranches 242 = .ok (.putfield 125, 3) := by decide +kernel
theorem dX13_readBranches_245 : decode cX13_readBranches 245 = .ok (.return_, 1) := by decide +kernel
theorem dX13_readLife_0 : decode cX13_readLife 0 = .ok (.aload_n 0, 1) := by decide +kernel
theorem dX13_readLife_1 : decode cX13_readLife 1 = .ok (.aload_n 0, 1) := by decide +kernel
theorem dX13_readLife_2 : decode cX13_readLife 2 = .ok (.getfield 9, 3) := by decide +kernel
theorem dX13_readLife_5 : decode cX13_readLife 5 = .ok (.iconst 0, 1) := by decide +kernel
theorem dX13_readLife_6 : decode cX13_readLife 6 = .ok (.aload_n 0, 1) := by decide +kernel
theorem dX13_readLife_7 : decode cX13_readLife 7 = .ok (.getfield 115, 3) := by decide +kernel
theorem dX13_readLife_10 : decode cX13_readLife 10 = .ok (.invokevirtual 213, 3) := by decide +kernel
theorem dX13_readLife_13 : decode cX13_readLife 13 = .ok (.aload_n 0, 1) := by decide +kernel
theorem dX13_readLife_14 : decode cX13_readLife 14 = .ok (.getfield 46, 3) := by decide +kernel
theorem dX13_readLife_17 : decode cX13_readLife 17 = .ok (.iconst 3, 1) := by decide +kernel
theorem dX13_readLife_18 : decode cX13_readLife 18 = .ok (.iconst 0, 1) := by decide +kernel
theorem dX13_readLife_19 : decode cX13_readLife 19 = .ok (.iastore, 1) := by decide +kernel
theorem dX13_readLife_20 : decode cX13_readLife 20 = .ok (.aload_n 0, 1) := by decide +kernel
theorem dX13_readLife_21 : decode cX13_readLife 21 = .ok (.getfield 49, 3) := by decide +kernel
theorem dX13_readLife_24 : decode cX13_readLife 24 = .ok (.iconst 3, 1) := by decide +kernel
theorem dX13_readLife_25 : decode cX13_readLife 25 = .ok (.iconst 0, 1) := by decide +kernel
theorem dX13_readLife_26 : decode cX13_readLife 26 = .ok (.iastore, 1) := by decide +kernel
theorem dX13_readLife_27 : decode cX13_readLife 27 = .ok (.aload_n 0, 1) := by decide +kernel
theorem dX13_readLife_28 : decode cX13_readLife 28 = .ok (.iconst (-1), 1) := by decide +kernel
theorem dX13_readLife_29 : decode cX13_readLife 29 = .ok (.iconst (-1), 1) := by decide +kernel
theorem dX13_readLife_30 : decode cX13_readLife 30 = .ok (.iconst 0, 1) := by decide +kernel
theorem dX13_readLife_31 : decode cX13_readLife 31 = .ok (.invokevirtual 272, 3) := by decide +kernel
theorem dX13_readLife_34 : decode cX13_readLife 34 = .ok (.pop, 1) := by decide +kernel
theorem dX13_readLife_35 : decode cX13_readLife 35 = .ok (.aload_n 0, 1) := by decide +kernel
theorem dX13_readLife_36 : decode cX13_readLife 36 = .ok (.getfield 134, 3) := by decide +kernel
theorem dX13_readLife_39 : decode cX13_readLife 39 = .ok (.iconst (-1), 1) := by decide +kernel
theorem dX13_readLife_40 : decode cX13_readLife 40 = .ok (.if_icmp .ne 16, 3) := by decide +kernel
theorem dX13_readLife_43 : decode cX13_readLife 43 = .ok (.aload_n 0, 1) := by decide +kernel
theorem dX13_readLife_44 : decode cX13_readLife 44 = .ok (.invokevirtual 144, 3) := by decide +kernel
theorem dX13_readLife_47 : decode cX13_readLife 47 = .ok (.iconst (-1), 1) := by decide +kernel
theorem dX13_readLife_48 : decode cX13_readLife 48 = .ok (.if_icmp .eq 8, 3) := by decide +kernel
theorem dX13_readLife_51 : decode cX13_readLife 51 = .ok (.aload_n 0, 1) := by decide +kernel
theorem dX13_readLife_52 : decode cX13_readLife 52 = .ok (.invokevirtual 140, 3) := by decide +kernel
theorem dX13_readLife_55 : decode cX13_readLife 55 = .ok (.pop, 1) := by decide +kernel
theorem dX13_readLife_56 : decode cX13_readLife 56 = .ok (.return_, 1) := by decide +kernel
theorem dX13_fault_0 : decode cX13_fault 0 = .ok (.aload_n 0, 1) := by decide +kernel
theorem dX13_fault_1 : decode cX13_fault 1 = .ok (.iconst 0, 1) := by decide +kernel
theorem dX13_fault_2 : decode cX13_fault 2 = .ok (.putfield 102, 3) := by decide +kernel
theorem dX13_fault_5 : decode cX13_fault 5 = .ok (.iload_n 1, 1) := by decide +kernel
theorem dX13_fault_6 : decode cX13_fault 6 = .ok (.i2l, 1) := by decide +kernel
theorem dX13_fault_7 : decode cX13_fault 7 = .ok (.lconst 0, 1) := by decide +kernel
theorem dX13_fault_8 : decode cX13_fault 8 = .ok (.lconst 1, 1) := by decide +kernel
theorem dX13_fault_9 : decode cX13_fault 9 = .ok (.invokestatic 231, 3) := by decide +kernel
theorem dX13_fault_12 : decode cX13_fault 12 = .ok (.ifCond .ne 6, 3) := by decide +kernel
theorem dX13_fault_15 : decode cX13_fault 15 = .ok (.bipush (-2), 2) := by decide +kernel
theorem dX13_fault_17 : decode cX13_fault 17 = .ok (.ireturn, 1) := by decide +kernel
theorem dX13_fault_18 : decode cX13_fault 18 = .ok (.iload_n 1, 1) := by decide +kernel
theorem dX13_fault_19 : decode cX13_fault 19 = .ok (.ifCond .ne 10, 3) := by decide +kernel
theorem dX13_fault_22 : decode cX13_fault 22 = .ok (.aload_n 0, 1) := by decide +kernel
theorem dX13_fault_23 : decode cX13_fault 23 = .ok (.invokevirtual 275, 3) := by decide +kernel
theorem dX13_fault_26 : decode cX13_fault 26 = .ok (.goto 16, 3) := by decide +kernel
theorem dX13_fault_29 : decode cX13_fault 29 = .ok (.aload_n 0, 1) := by decide +kernel
theorem dX13_fault_30 : decode cX13_fault 30 = .ok (.aload_n 0, 1) := by decide +kernel
theorem dX13_fault_31 : decode cX13_fault 31 = .ok (.getfield 9, 3) := by decide +kernel
theorem dX13_fault_34 : decode cX13_fault 34 = .ok (.iconst 0, 1) := by decide +kernel
theorem dX13_fault_35 : decode cX13_fault 35 = .ok (.aload_n 0, 1) := by decide +kernel
theorem dX13_fault_36 : decode cX13_fault 36 = .ok (.getfield 115, 3) := by decide +kernel
theorem dX13_fault_39 : decode cX13_fault 39 = .ok (.invokevirtual 278, 3) := by decide +kernel
theorem dX13_fault_42 : decode cX13_fault 42 = .ok (.aload_n 0, 1) := by decide +kernel
theorem dX13_fault_43 : decode cX13_fault 43 = .ok (.getfield 134, 3) := by decide +kernel
theorem dX13_fault_46 : decode cX13_fault 46 = .ok (.ireturn, 1) := by decide +kernel
theorem dX13_text_0 : decode cX13_text 0 = .ok (.aload_n 0, 1) := by decide +kernel
theorem dX13_text_1 : decode cX13_text 1 = .ok (.iconst 0, 1) := by decide +kernel
theorem dX13_text_2 : decode cX13_text 2 = .ok (.putfield 102, 3) := by decide +kernel
theorem dX13_text_5 : decode cX13_text 5 = .ok (.iload_n 1, 1) := by decide +kernel
theorem dX13_text_6 : decode cX13_text 6 = .ok (.i2l, 1) := by decide +kernel
theorem dX13_text_7 : decode cX13_text 7 = .ok (.lconst 0, 1) := by decide +kernel
theorem dX13_text_8 : decode cX13_text 8 = .ok (.lconst 1, 1) := by decide +kernel
theorem dX13_text_9 : decode cX13_text 9 = .ok (.invokestatic 231, 3) := by decide +kernel
theorem dX13_text_12 : decode cX13_text 12 = .ok (.ifCond .eq 38, 3) := by decide +kernel
theorem dX13_text_15 : decode cX13_text 15 = .ok (.iload_n 1, 1) := by decide +kernel
theorem dX13_text_16 : decode cX13_text 16 = .ok (.ifCond .ne 11, 3) := by decide +kernel
theorem dX13_text_19 : decode cX13_text 19 = .ok (.aload_n 0, 1) := by decide +kernel
theorem dX13_text_20 : decode cX13_text 20 = .ok (.getfield 281, 3) := by decide +kernel
theorem dX13_text_23 : decode cX13_text 23 = .ok (.iconst 3, 1) := by decide +kernel
theorem dX13_text_24 : decode cX13_text 24 = .ok (.if_icmp .eq 26, 3) := by decide +kernel
theorem dX13_text_27 : decode cX13_text 27 = .ok (.iload_n 1, 1) := by decide +kernel
theorem dX13_text_28 : decode cX13_text 28 = .ok (.iconst 1, 1) := by decide +kernel
theorem dX13_text_29 : decode cX13_text 29 = .ok (.if_icmp .ne 12, 3) := by decide +kernel
theorem dX13_text_32 : decode cX13_text 32 = .ok (.aload_n 0, 1) := by decide +kernel
theorem dX13_text_33 : decode cX13_text 33 = .ok (.getfield 284, 3) := by decide +kernel
theorem dX13_text_36 : decode cX13_text 36 = .ok (.bipush 6, 2) := by decide +kernel
theorem dX13_text_38 : decode cX13_text 38 = .ok (.if_icmp .eq 12, 3) := by decide +kernel
theorem dX13_text_41 : decode cX13_text 41 = .ok (.aload_n 0, 1) := by decide +kernel
theorem dX13_text_42 : decode cX13_text 42 = .ok (.iload_n 1, 1) := by decide +kernel
theorem dX13_text_43 : decode cX13_text 43 = .ok (.invokevirtual 287, 3) := by decide +kernel
theorem dX13_text_46 : decode cX13_text 46 = .ok (.iconst (-1), 1) := by decide +kernel
theorem dX13_text_47 : decode cX13_text 47 = .ok (.if_icmp .eq 5, 3) := by decide +kernel
theorem dX13_text_50 : decode cX13_text 50 = .ok (.iconst (-1), 1) := by decide +kernel
theorem dX13_text_51 : decode cX13_text 51 = .ok (.ireturn, 1) := by decide +kernel
theorem dX13_text_52 : decode cX13_text 52 = .ok (.aload_n 0, 1) := by decide +kernel
theorem dX13_text_53 : decode cX13_text 53 = .ok (.getfield 115, 3) := by decide +kernel
theorem dX13_text_56 : decode cX13_text 56 = .ok (.istore_n 2, 1) := by decide +kernel
theorem dX13_text_57 : decode cX13_text 57 = .ok (.aload_n 0, 1) := by decide +kernel
theorem dX13_text_58 : decode cX13_text 58 = .ok (.iconst 0, 1) := by decide +kernel
theorem dX13_text_59 : decode cX13_text 59 = .ok (.putfield 115, 3) := by decide +kernel
theorem dX13_text_62 : decode cX13_text 62 = .ok (.iload_n 1, 1) := by decide +kernel
theorem dX13_text_63 : decode cX13_text 63 = .ok (.iconst 1, 1) := by decide +kernel
theorem dX13_text_64 : decode cX13_text 64 = .ok (.if_icmp .ne 64, 3) := by decide +kernel
theorem dX13_text_67 : decode cX13_text 67 = .ok (.iconst 0, 1) := by decide +kernel
theorem dX13_text_68 : decode cX13_text 68 = .ok (.istore_n 3, 1) := by decide +kernel
theorem dX13_text_69 : decode cX13_text 69 = .ok (.iload_n 3, 1) := by decide +kernel
theorem dX13_text_70 : decode cX13_text 70 = .ok (.iload_n 2, 1) := by decide +kernel
theorem dX13_text_71 : decode cX13_text 71 = .ok (.if_icmp .ge 30, 3) := by decide +kernel
theorem dX13_text_74 : decode cX13_text 74 = .ok (.aload_n 0, 1) := by decide +kernel
theorem dX13_text_75 : decode cX13_text 75 = .ok (.getfield 13, 3) := by decide +kernel
theorem dX13_text_78 : decode cX13_text 78 = .ok (.sipush 240, 3) := by decide +kernel
theorem dX13_text_81 : decode cX13_text 81 = .ok (.aload_n 0, 1) := by decide +kernel
theorem dX13_text_82 : decode cX13_text 82 = .ok (.getfield 284, 3) := by decide +kernel
theorem dX13_text_85 : decode cX13_text 85 = .ok (.imul, 1) := by decide +kernel
theorem dX13_text_86 : decode cX13_text 86 = .ok (.iload_n 3, 1) := by decide +kernel
theorem dX13_text_87 : decode cX13_text 87 = .ok (.iadd, 1) := by decide +kernel
theorem dX13_text_88 : decode cX13_text 88 = .ok (.aload_n 0, 1) := by decide +kernel
theorem dX13_text_89 : decode cX13_text 89 = .ok (.getfield 9, 3) := by decide +kernel
theorem dX13_text_92 : decode cX13_text 92 = .ok (.iload_n 3, 1) := by decide +kernel
theorem dX13_text_93 : decode cX13_text 93 = .ok (.baload, 1) := by decide +kernel
theorem dX13_text_94 : decode cX13_text 94 = .ok (.bastore, 1) := by decide +kernel
theorem dX13_text_95 : decode cX13_text 95 = .ok (.iinc 3 1, 3) := by decide +kernel
theorem dX13_text_98 : decode cX13_text 98 = .ok (.goto (-29), 3) := by decide +kernel
theorem dX13_text_101 : decode cX13_text 101 = .ok (.aload_n 0, 1) := by decide +kernel
theorem dX13_text_102 : decode cX13_text 102 = .ok (.getfield 16, 3) := by decide +kernel
theorem dX13_text_105 : decode cX13_text 105 = .ok (.aload_n 0, 1) := by decide +kernel
theorem dX13_text_106 : decode cX13_text 106 = .ok (.getfield 284, 3) := by decide +kernel
theorem dX13_text_109 : decode cX13_text 109 = .ok (.iload_n 2, 1) := by decide +kernel
theorem dX13_text_110 : decode cX13_text 110 = .ok (.iastore, 1) := by decide +kernel
theorem dX13_text_111 : decode cX13_text 111 = .ok (.aload_n 0, 1) := by decide +kernel
theorem dX13_text_112 : decode cX13_text 112 = .ok (.dup, 1) := by decide +kernel
theorem dX13_text_113 : decode cX13_text 113 = .ok (.getfield 284, 3) := by decide +kernel
theorem dX13_text_116 : decode cX13_text 116 = .ok (.iconst 1, 1) := by decide +kernel
theorem dX13_text_117 : decode cX13_text 117 = .ok (.iadd, 1) := by decide +kernel
theorem dX13_text_118 : decode cX13_text 118 = .ok (.putfield 284, 3) := by decide +kernel
theorem dX13_text_121 : decode cX13_text 121 = .ok (.aload_n 0, 1) := by decide +kernel
theorem dX13_text_122 : decode cX13_text 122 = .ok (.getfield 284, 3) := by decide +kernel
theorem dX13_text_125 : decode cX13_text 125 = .ok (.iconst 1, 1) := by decide +kernel
theorem dX13_text_126 : decode cX13_text 126 = .ok (.isub, 1) := by decide +kernel
theorem dX13_text_127 : decode cX13_text 127 = .ok (.ireturn, 1) := by decide +kernel
theorem dX13_text_128 : decode cX13_text 128 = .ok (.iconst 0, 1) := by decide +kernel
theorem dX13_text_129 : decode cX13_text 129 = .ok (.istore_n 3, 1) := by decide +kernel
theorem dX13_text_130 : decode cX13_text 130 = .ok (.iload_n 3, 1) := by decide +kernel
theorem dX13_text_131 : decode cX13_text 131 = .ok (.bipush 84, 2) := by decide +kernel
theorem dX13_text_133 : decode cX13_text 133 = .ok (.if_icmp .ge 36, 3) := by decide +kernel
theorem dX13_text_136 : decode cX13_text 136 = .ok (.aload_n 0, 1) := by decide +kernel
theorem dX13_text_137 : decode cX13_text 137 = .ok (.getfield 37, 3) := by decide +kernel
theorem dX13_text_140 : decode cX13_text 140 = .ok (.aload_n 0, 1) := by decide +kernel
theorem dX13_text_141 : decode cX13_text 141 = .ok (.getfield 281, 3) := by decide +kernel
theorem dX13_text_144 : decode cX13_text 144 = .ok (.bipush 12, 2) := by decide +kernel
theorem dX13_text_146 : decode cX13_text 146 = .ok (.imul, 1) := by decide +kernel
theorem dX13_text_147 : decode cX13_text 147 = .ok (.bipush 7, 2) := by decide +kernel
theorem dX13_text_149 : decode cX13_text 149 = .ok (.imul, 1) := by decide +kernel
theorem dX13_text_150 : decode cX13_text 150 = .ok (.iload_n 3, 1) := by decide +kernel
theorem dX13_text_151 : decode cX13_text 151 = .ok (.iadd, 1) := by decide +kernel
theorem dX13_text_152 : decode cX13_text 152 = .ok (.aload_n 0, 1) := by decide +kernel
theorem dX13_text_153 : decode cX13_text 153 = .ok (.getfield 37, 3) := by decide +kernel
theorem dX13_text_156 : decode cX13_text 156 = .ok (.sipush 252, 3) := by decide +kernel
theorem dX13_text_159 : decode cX13_text 159 = .ok (.iload_n 3, 1) := by decide +kernel
theorem dX13_text_160 : decode cX13_text 160 = .ok (.iadd, 1) := by decide +kernel
theorem dX13_text_161 : decode cX13_text 161 = .ok (.iaload, 1) := by decide +kernel
theorem dX13_text_162 : decode cX13_text 162 = .ok (.iastore, 1) := by decide +kernel
theorem dX13_text_163 : decode cX13_text 163 = .ok (.iinc 3 1, 3) := by decide +kernel
theorem dX13_text_166 : decode cX13_text 166 = .ok (.goto (-36), 3) := by decide +kernel
theorem dX13_text_169 : decode cX13_text 169 = .ok (.iconst 0, 1) := by decide +kernel
theorem dX13_text_170 : decode cX13_text 170 = .ok (.istore_n 3, 1) := by decide +kernel
theorem dX13_text_171 : decode cX13_text 171 = .ok (.iload_n 3, 1) := by decide +kernel
theorem dX13_text_172 : decode cX13_text 172 = .ok (.bipush 90, 2) := by decide +kernel
theorem dX13_text_174 : decode cX13_text 174 = .ok (.if_icmp .ge 35, 3) := by decide +kernel
theorem dX13_text_177 : decode cX13_text 177 = .ok (.aload_n 0, 1) := by decide +kernel
theorem dX13_text_178 : decode cX13_text 178 = .ok (.getfield 40, 3) := by decide +kernel
theorem dX13_text_181 : decode cX13_text 181 = .ok (.aload_n 0, 1) := by decide +kernel
theorem dX13_text_182 : decode cX13_text 182 = .ok (.getfield 281, 3) := by decide +kernel
theorem dX13_text_185 : decode cX13_text 185 = .ok (.bipush 18, 2) := by decide +kernel
theorem dX13_text_187 : decode cX13_text 187 = .ok (.imul, 1) := by decide +kernel
theorem dX13_text_188 : decode cX13_text 188 = .ok (.iconst 5, 1) := by decide +kernel
theorem dX13_text_189 : decode cX13_text 189 = .ok (.imul, 1) := by decide +kernel
theorem dX13_text_190 : decode cX13_text 190 = .ok (.iload_n 3, 1) := by decide +kernel
theorem dX13_text_191 : decode cX13_text 191 = .ok (.iadd, 1) := by decide +kernel
theorem dX13_text_192 : decode cX13_text 192 = .ok (.aload_n 0, 1) := by decide +kernel
theorem dX13_text_193 : decode cX13_text 193 = .ok (.getfield 40, 3) := by decide +kernel
theorem dX13_text_196 : decode cX13_text 196 = .ok (.sipush 270, 3) := by decide +kernel
theorem dX13_text_199 : decode cX13_text 199 = .ok (.iload_n 3, 1) := by decide +kernel
theorem dX13_text_200 : decode cX13_text 200 = .ok (.iadd, 1) := by decide +kernel
theorem dX13_text_201 : decode cX13_text 201 = .ok (.iaload, 1) := by decide +kernel
theorem dX13_text_202 : decode cX13_text 202 = .ok (.iastore, 1) := by decide +kernel
theorem dX13_text_203 : decode cX13_text 203 = .ok (.iinc 3 1, 3) := by decide +kernel
theorem dX13_text_206 : decode cX13_text 206 = .ok (.goto (-35), 3) := by decide +kernel
theorem dX13_text_209 : decode cX13_text 209 = .ok (.iconst 0, 1) := by decide +kernel
theorem dX13_text_210 : decode cX13_text 210 = .ok (.istore_n 3, 1) := by decide +kernel
theorem dX13_text_211 : decode cX13_text 211 = .ok (.iload_n 3, 1) := by decide +kernel
theorem dX13_text_212 : decode cX13_text 212 = .ok (.sipush 432, 3) := by decide +kernel
theorem dX13_text_215 : decode cX13_text 215 = .ok (.if_icmp .ge 38, 3) := by decide +kernel
theorem dX13_text_218 : decode cX13_text 218 = .ok (.aload_n 0, 1) := by decide +kernel
theorem dX13_text_219 : decode cX13_text 219 = .ok (.getfield 43, 3) := by decide +kernel
theorem dX13_text_222 : decode cX13_text 222 = .ok (.aload_n 0, 1) := by decide +kernel
theorem dX13_text_223 : decode cX13_text 223 = .ok (.getfield 281, 3) := by decide +kernel
theorem dX13_text_226 : decode cX13_text 226 = .ok (.bipush 18, 2) := by decide +kernel
theorem dX13_text_228 : decode cX13_text 228 = .ok (.imul, 1) := by decide +kernel
theorem dX13_text_229 : decode cX13_text 229 = .ok (.iconst 4, 1) := by decide +kernel
theorem dX13_text_230 : decode cX13_text 230 = .ok (.imul, 1) := by decide +kernel
theorem dX13_text_231 : decode cX13_text 231 = .ok (.bipush 6, 2) := by decide +kernel
theorem dX13_text_233 : decode cX13_text 233 = .ok (.imul, 1) := by decide +kernel
theorem dX13_text_234 : decode cX13_text 234 = .ok (.iload_n 3, 1) := by decide +kernel
theorem dX13_text_235 : decode cX13_text 235 = .ok (.iadd, 1) := by decide +kernel
theorem dX13_text_236 : decode cX13_text 236 = .ok (.aload_n 0, 1) := by decide +kernel
theorem dX13_text_237 : decode cX13_text 237 = .ok (.getfield 43, 3) := by decide +kernel
theorem dX13_text_240 : decode cX13_text 240 = .ok (.sipush 1296, 3) := by decide +kernel
theorem dX13_text_243 : decode cX13_text 243 = .ok (.iload_n 3, 1) := by decide +kernel
theorem dX13_text_244 : decode cX13_text 244 = .ok (.iadd, 1) := by decide +kernel
theorem dX13_text_245 : decode cX13_text 245 = .ok (.iaload, 1) := by decide +kernel
theorem dX13_text_246 : decode cX13_text 246 = .ok (.iastore, 1) := by decide +kernel
theorem dX13_text_247 : decode cX13_text 247 = .ok (.iinc 3 1, 3) := by decide +kernel
theorem dX13_text_250 : decode cX13_text 250 = .ok (.goto (-39), 3) := by decide +kernel
theorem dX13_text_253 : decode cX13_text 253 = .ok (.aload_n 0, 1) := by decide +kernel
theorem dX13_text_254 : decode cX13_text 254 = .ok (.getfield 46, 3) := by decide +kernel
theorem dX13_text_257 : decode cX13_text 257 = .ok (.aload_n 0, 1) := by decide +kernel
theorem dX13_text_258 : decode cX13_text 258 = .ok (.getfield 281, 3) := by decide +kernel
theorem dX13_text_261 : decode cX13_text 261 = .ok (.aload_n 0, 1) := by decide +kernel
theorem dX13_text_262 : decode cX13_text 262 = .ok (.getfield 46, 3) := by decide +kernel
theorem dX13_text_265 : decode cX13_text 265 = .ok (.iconst 3, 1) := by decide +kernel
theorem dX13_text_266 : decode cX13_text 266 = .ok (.iaload, 1) := by decide +kernel
theorem dX13_text_267 : decode cX13_text 267 = .ok (.iastore, 1) := by decide +kernel
theorem dX13_text_268 : decode cX13_text 268 = .ok (.aload_n 0, 1) := by decide +kernel
theorem dX13_text_269 : decode cX13_text 269 = .ok (.getfield 49, 3) := by decide +kernel
theorem dX13_text_272 : decode cX13_text 272 = .ok (.aload_n 0, 1) := by decide +kernel
theorem dX13_text_273 : decode cX13_text 273 = .ok (.getfield 281, 3) := by decide +kernel
theorem dX13_text_276 : decode cX13_text 276 = .ok (.aload_n 0, 1) := by decide +kernel
theorem dX13_text_277 : decode cX13_text 277 = .ok (.getfield 49, 3) := by decide +kernel
theorem dX13_text_280 : decode cX13_text 280 = .ok (.iconst 3, 1) := by decide +kernel
theorem dX13_text_281 : decode cX13_text 281 = .ok (.iaload, 1) := by decide +kernel
theorem dX13_text_282 : decode cX13_text 282 = .ok (.iastore, 1) := by decide +kernel
theorem dX13_text_283 : decode cX13_text 283 = .ok (.aload_n 0, 1) := by decide +kernel
theorem dX13_text_284 : decode cX13_text 284 = .ok (.dup, 1) := by decide +kernel
theorem dX13_text_285 : decode cX13_text 285 = .ok (.getfield 281, 3) := by decide +kernel
theorem dX13_text_288 : decode cX13_text 288 = .ok (.iconst 1, 1) := by decide +kernel
theorem dX13_text_289 : decode cX13_text 289 = .ok (.iadd, 1) := by decide +kernel
theorem dX13_text_290 : decode cX13_text 290 = .ok (.putfield 281, 3) := by decide +kernel
theorem dX13_text_293 : decode cX13_text 293 = .ok (.aload_n 0, 1) := by decide +kernel
theorem dX13_text_294 : decode cX13_text 294 = .ok (.aload_n 0, 1) := by decide +kernel
theorem dX13_text_295 : decode cX13_text 295 = .ok (.getfield 281, 3) := by decide +kernel
theorem dX13_text_298 : decode cX13_text 298 = .ok (.iconst 1, 1) := by decide +kernel
theorem dX13_text_299 : decode cX13_text 299 = .ok (.isub, 1) := by decide +kernel
theorem dX13_text_300 : decode cX13_text 300 = .ok (.invokevirtual 289, 3) := by decide +kernel
theorem dX13_text_303 : decode cX13_text 303 = .ok (.pop, 1) := by decide +kernel
theorem dX13_text_304 : decode cX13_text 304 = .ok (.aload_n 0, 1) := by decide +kernel
theorem dX13_text_305 : decode cX13_text 305 = .ok (.getfield 281, 3) := by decide +kernel
theorem dX13_text_308 : decode cX13_text 308 = .ok (.iconst 1, 1) := by decide +kernel
theorem dX13_text_309 : decode cX13_text 309 = .ok (.isub, 1) := by decide +kernel
theorem dX13_text_310 : decode cX13_text 310 = .ok (.ireturn, 1) := by decide +kernel
theorem dX13_call_0 : decode cX13_call 0 = .ok (.aload_n 0, 1) := by decide +kernel
theorem dX13_call_1 : decode cX13_call 1 = .ok (.iconst 0, 1) := by decide +kernel
theorem dX13_call_2 : decode cX13_call 2 = .ok (.putfield 102, 3) := by decide +kernel
theorem dX13_call_5 : decode cX13_call 5 = .ok (.iload_n 1, 1) := by decide +kernel
theorem dX13_call_6 : decode cX13_call 6 = .ok (.i2l, 1) := by decide +kernel
theorem dX13_call_7 : decode cX13_call 7 = .ok (.lconst 0, 1) := by decide +kernel
theorem dX13_call_8 : decode cX13_call 8 = .ok (.aload_n 0, 1) := by decide +kernel
theorem dX13_call_9 : decode cX13_call 9 = .ok (.getfield 281, 3) := by decide +kernel
theorem dX13_call_12 : decode cX13_call 12 = .ok (.iconst 1, 1) := by decide +kernel
theorem dX13_call_13 : decode cX13_call 13 = .ok (.isub, 1) := by decide +kernel
theorem dX13_call_14 : decode cX13_call 14 = .ok (.i2l, 1) := by decide +kernel
theorem dX13_call_15 : decode cX13_call 15 = .ok (.invokestatic 231, 3) := by decide +kernel
theorem dX13_call_18 : decode cX13_call 18 = .ok (.ifCond .ne 5, 3) := by decide +kernel
theorem dX13_call_21 : decode cX13_call 21 = .ok (.iconst (-1), 1) := by decide +kernel
theorem dX13_call_22 : decode cX13_call 22 = .ok (.ireturn, 1) := by decide +kernel
theorem dX13_call_23 : decode cX13_call 23 = .ok (.aload_n 0, 1) := by decide +kernel
theorem dX13_call_24 : decode cX13_call 24 = .ok (.iload_n 1, 1) := by decide +kernel
theorem dX13_call_25 : decode cX13_call 25 = .ok (.putfield 52, 3) := by decide +kernel
theorem dX13_call_28 : decode cX13_call 28 = .ok (.iconst 0, 1) := by decide +kernel
theorem dX13_call_29 : decode cX13_call 29 = .ok (.istore_n 2, 1) := by decide +kernel
theorem dX13_call_30 : decode cX13_call 30 = .ok (.iload_n 2, 1) := by decide +kernel
theorem dX13_call_31 : decode cX13_call 31 = .ok (.bipush 72, 2) := by decide +kernel
theorem dX13_call_33 : decode cX13_call 33 = .ok (.if_icmp .ge 16, 3) := by decide +kernel
theorem dX13_call_36 : decode cX13_call 36 = .ok (.aload_n 0, 1) := by decide +kernel
theorem dX13_call_37 : decode cX13_call 37 = .ok (.getfield 56, 3) := by decide +kernel
theorem dX13_call_40 : decode cX13_call 40 = .ok (.iload_n 2, 1) := by decide +kernel
theorem dX13_call_41 : decode cX13_call 41 = .ok (.iconst 1, 1) := by decide +kernel
theorem dX13_call_42 : decode cX13_call 42 = .ok (.bastore, 1) := by decide +kernel
theorem dX13_call_43 : decode cX13_call 43 = .ok (.iinc 2 1, 3) := by decide +kernel
theorem dX13_call_46 : decode cX13_call 46 = .ok (.goto (-16), 3) := by decide +kernel
theorem dX13_call_49 : decode cX13_call 49 = .ok (.aload_n 0, 1) := by decide +kernel
theorem dX13_call_50 : decode cX13_call 50 = .ok (.iconst 0, 1) := by decide +kernel
theorem dX13_call_51 : decode cX13_call 51 = .ok (.putfield 292, 3) := by decide +kernel
theorem dX13_call_54 : decode cX13_call 54 = .ok (.aload_n 0, 1) := by decide +kernel
theorem dX13_call_55 : decode cX13_call 55 = .ok (.iconst 0, 1) := by decide +kernel
theorem dX13_call_56 : decode cX13_call 56 = .ok (.putfield 295, 3) := by decide +kernel
theorem dX13_call_59 : decode cX13_call 59 = .ok (.aload_n 0, 1) := by decide +kernel
theorem dX13_call_60 : decode cX13_call 60 = .ok (.iconst 0, 1) := by decide +kernel
theorem dX13_call_61 : decode cX13_call 61 = .ok (.putfield 298, 3) := by decide +kernel
theorem dX13_call_64 : decode cX13_call 64 = .ok (.aload_n 0, 1) := by decide +kernel
theorem dX13_call_65 : decode cX13_call 65 = .ok (.iconst 0, 1) := by decide +kernel
theorem dX13_call_66 : decode cX13_call 66 = .ok (.putfield 301, 3) := by decide +kernel
theorem dX13_call_69 : decode cX13_call 69 = .ok (.aload_n 0, 1) := by decide +kernel
theorem dX13_call_70 : decode cX13_call 70 = .ok (.getfield 46, 3) := by decide +kernel
theorem dX13_call_73 : decode cX13_call 73 = .ok (.iload_n 1, 1) := by decide +kernel
theorem dX13_call_74 : decode cX13_call 74 = .ok (.iaload, 1) := by decide +kernel
theorem dX13_call_75 : decode cX13_call 75 = .ok (.ireturn, 1) := by decide +kernel
theorem dX13_isSelf_0 : decode cX13_isSelf 0 = .ok (.aload_n 0, 1) := by decide +kernel
theorem dX13_isSelf_1 : decode cX13_isSelf 1 = .ok (.getfield 52, 3) := by decide +kernel
theorem dX13_isSelf_4 : decode cX13_isSelf 4 = .ok (.iconst (-1), 1) := by decide +kernel
theorem dX13_isSelf_5 : decode cX13_isSelf 5 = .ok (.if_icmp .eq 28, 3) := by decide +kernel
theorem dX13_isSelf_8 : decode cX13_isSelf 8 = .ok (.iload_n 1, 1) := by decide +kernel
theorem dX13_isSelf_9 : decode cX13_isSelf 9 = .ok (.i2l, 1) := by decide +kernel
theorem dX13_isSelf_10 : decode cX13_isSelf 10 = .ok (.lconst 0, 1) := by decide +kernel
theorem dX13_isSelf_11 : decode cX13_isSelf 11 = .ok (.aload_n 0, 1) := by decide +kernel
theorem dX13_isSelf_12 : decode cX13_isSelf 12 = .ok (.getfield 46, 3) := by decide +kernel
theorem dX13_isSelf_15 : decode cX13_isSelf 15 = .ok (.aload_n 0, 1) := by decide +kernel
theorem dX13_isSelf_16 : decode cX13_isSelf 16 = .ok (.getfield 52, 3) := by decide +kernel
theorem dX13_isSelf_19 : decode cX13_isSelf 19 = .ok (.iaload, 1) := by decide +kernel
theorem dX13_isSelf_20 : decode cX13_isSelf 20 = .ok (.iconst 1, 1) := by decide +kernel
theorem dX13_isSelf_21 : decode cX13_isSelf 21 = .ok (.isub, 1) := by decide +kernel
theorem dX13_isSelf_22 : decode cX13_isSelf 22 = .ok (.i2l, 1) := by decide +kernel
theorem dX13_isSelf_23 : decode cX13_isSelf 23 = .ok (.invokestatic 231, 3) := by decide +kernel
theorem dX13_isSelf_26 : decode cX13_isSelf 26 = .ok (.ifCond .eq 7, 3) := by decide +kernel
theorem dX13_isSelf_29 : decode cX13_isSelf 29 = .ok (.iconst 1, 1) := by decide +kernel
theorem dX13_isSelf_30 : decode cX13_isSelf 30 = .ok (.goto 4, 3) := by decide +kernel
theorem dX13_isSelf_33 : decode cX13_isSelf 33 = .ok (.iconst 0, 1) := by decide +kernel
theorem dX13_isSelf_34 : decode cX13_isSelf 34 = .ok (.ireturn, 1) := by decide +kernel
theorem dX13_isFork_0 : decode cX13_isFork 0 = .ok (.aload_n 0, 1) := by decide +kernel
theorem dX13_isFork_1 : decode cX13_isFork 1 = .ok (.getfield 52, 3) := by decide +kernel
theorem dX13_isFork_4 : decode cX13_isFork 4 = .ok (.iconst (-1), 1) := by decide +kernel
theorem dX13_isFork_5 : decode cX13_isFork 5 = .ok (.if_icmp .eq 28, 3) := by decide +kernel
theorem dX13_isFork_8 : decode cX13_isFork 8 = .ok (.iload_n 1, 1) := by decide +kernel
theorem dX13_isFork_9 : decode cX13_isFork 9 = .ok (.i2l, 1) := by decide +kernel
theorem dX13_isFork_10 : decode cX13_isFork 10 = .ok (.lconst 0, 1) := by decide +kernel
theorem dX13_isFork_11 : decode cX13_isFork 11 = .ok (.aload_n 0, 1) := by decide +kernel
theorem dX13_isFork_12 : decode cX13_isFork 12 = .ok (.getfield 49, 3) := by decide +kernel
theorem dX13_isFork_15 : decode cX13_isFork 15 = .ok (.aload_n 0, 1) := by decide +kernel
theorem dX13_isFork_16 : decode cX13_isFork 16 = .ok (.getfield 52, 3) := by decide +kernel
theorem dX13_isFork_19 : decode cX13_isFork 19 = .ok (.iaload, 1) := by decide +kernel
theorem dX13_isFork_20 : decode cX13_isFork 20 = .ok (.iconst 1, 1) := by decide +kernel
theorem dX13_isFork_21 : decode cX13_isFork 21 = .ok (.isub, 1) := by decide +kernel
theorem dX13_isFork_22 : decode cX13_isFork 22 = .ok (.i2l, 1) := by decide +kernel
theorem dX13_isFork_23 : decode cX13_isFork 23 = .ok (.invokestatic 231, 3) := by decide +kernel
theorem dX13_isFork_26 : decode cX13_isFork 26 = .ok (.ifCond .eq 7, 3) := by decide +kernel
theorem dX13_isFork_29 : decode cX13_isFork 29 = .ok (.iconst 1, 1) := by decide +kernel
theorem dX13_isFork_30 : decode cX13_isFork 30 = .ok (.goto 4, 3) := by decide +kernel
theorem dX13_isFork_33 : decode cX13_isFork 33 = .ok (.iconst 0, 1) := by decide +kernel
theorem dX13_isFork_34 : decode cX13_isFork 34 = .ok (.ireturn, 1) := by decide +kernel
theorem dX13_isBranch_0 : decode cX13_isBranch 0 = .ok (.aload_n 0, 1) := by decide +kernel
theorem dX13_isBranch_1 : decode cX13_isBranch 1 = .ok (.iload_n 1, 1) := by decide +kernel
theorem dX13_isBranch_2 : decode cX13_isBranch 2 = .ok (.invokevirtual 304, 3) := by decide +kernel
theorem dX13_isBranch_5 : decode cX13_isBranch 5 = .ok (.ifCond .eq 35, 3) := by decide +kernel
theorem dX13_isBranch_8 : decode cX13_isBranch 8 = .ok (.iload_n 2, 1) := by decide +kernel
theorem dX13_isBranch_9 : decode cX13_isBranch 9 = .ok (.i2l, 1) := by decide +kernel
theorem dX13_isBranch_10 : decode cX13_isBranch 10 = .ok (.lconst 0, 1) := by decide +kernel
theorem dX13_isBranch_11 : decode cX13_isBranch 11 = .ok (.aload_n 0, 1) := by decide +kernel
theorem dX13_isBranch_12 : decode cX13_isBranch 12 = .ok (.getfield 40, 3) := by decide +kernel
theorem dX13_isBranch_15 : decode cX13_isBranch 15 = .ok (.aload_n 0, 1) := by decide +kernel
theorem dX13_isBranch_16 : decode cX13_isBranch 16 = .ok (.aload_n 0, 1) := by decide +kernel
theorem dX13_isBranch_17 : decode cX13_isBranch 17 = .ok (.getfield 52, 3) := by decide +kernel
theorem dX13_isBranch_20 : decode cX13_isBranch 20 = .ok (.iload_n 1, 1) := by decide +kernel
theorem dX13_isBranch_21 : decode cX13_isBranch 21 = .ok (.invokevirtual 249, 3) := by decide +kernel
theorem dX13_isBranch_24 : decode cX13_isBranch 24 = .ok (.iconst 2, 1) := by decide +kernel
theorem dX13_isBranch_25 : decode cX13_isBranch 25 = .ok (.iadd, 1) := by decide +kernel
theorem dX13_isBranch_26 : decode cX13_isBranch 26 = .ok (.iaload, 1) := by decide +kernel
theorem dX13_isBranch_27 : decode cX13_isBranch 27 = .ok (.iconst 1, 1) := by decide +kernel
theorem dX13_isBranch_28 : decode cX13_isBranch 28 = .ok (.isub, 1) := by decide +kernel
theorem dX13_isBranch_29 : decode cX13_isBranch 29 = .ok (.i2l, 1) := by decide +kernel
theorem dX13_isBranch_30 : decode cX13_isBranch 30 = .ok (.invokestatic 231, 3) := by decide +kernel
theorem dX13_isBranch_33 : decode cX13_isBranch 33 = .ok (.ifCond .eq 7, 3) := by decide +kernel
theorem dX13_isBranch_36 : decode cX13_isBranch 36 = .ok (.iconst 1, 1) := by decide +kernel
theorem dX13_isBranch_37 : decode cX13_isBranch 37 = .ok (.goto 4, 3) := by decide +kernel
theorem dX13_isBranch_40 : decode cX13_isBranch 40 = .ok (.iconst 0, 1) := by decide +kernel
theorem dX13_isBranch_41 : decode cX13_isBranch 41 = .ok (.ireturn, 1) := by decide +kernel
theorem dX13_layWay_0 : decode cX13_layWay 0 = .ok (.aload_n 0, 1) := by decide +kernel
theorem dX13_layWay_1 : decode cX13_layWay 1 = .ok (.getfield 37, 3) := by decide +kernel
theorem dX13_layWay_4 : decode cX13_layWay 4 = .ok (.aload_n 0, 1) := by decide +kernel
theorem dX13_layWay_5 : decode cX13_layWay 5 = .ok (.iload_n 1, 1) := by decide +kernel
theorem dX13_layWay_6 : decode cX13_layWay 6 = .ok (.iload_n 2, 1) := by decide +kernel
theorem dX13_layWay_7 : decode cX13_layWay 7 = .ok (.invokevirtual 235, 3) := by decide +kernel
theorem dX13_layWay_10 : decode cX13_layWay 10 = .ok (.iconst 5, 1) := by decide +kernel
theorem dX13_layWay_11 : decode cX13_layWay 11 = .ok (.iadd, 1) := by decide +kernel
theorem dX13_layWay_12 : decode cX13_layWay 12 = .ok (.iaload, 1) := by decide +kernel
theorem dX13_layWay_13 : decode cX13_layWay 13 = .ok (.istore_n 3, 1) := by decide +kernel
theorem dX13_layWay_14 : decode cX13_layWay 14 = .ok (.aload_n 0, 1) := by decide +kernel
theorem dX13_layWay_15 : decode cX13_layWay 15 = .ok (.getfield 37, 3) := by decide +kernel
theorem dX13_layWay_18 : decode cX13_layWay 18 = .ok (.aload_n 0, 1) := by decide +kernel
theorem dX13_layWay_19 : decode cX13_layWay 19 = .ok (.iload_n 1, 1) := by decide +kernel
theorem dX13_layWay_20 : decode cX13_layWay 20 = .ok (.iload_n 2, 1) := by decide +kernel
theorem dX13_layWay_21 : decode cX13_layWay 21 = .ok (.invokevirtual 235, 3) := by decide +kernel
theorem dX13_layWay_24 : decode cX13_layWay 24 = .ok (.bipush 6, 2) := by decide +kernel
theorem dX13_layWay_26 : decode cX13_layWay 26 = .ok (.iadd, 1) := by decide +kernel
theorem dX13_layWay_27 : decode cX13_layWay 27 = .ok (.iaload, 1) := by decide +kernel
theorem dX13_layWay_28 : decode cX13_layWay 28 = .ok (.istore 4, 2) := by decide +kernel
theorem dX13_layWay_30 : decode cX13_layWay 30 = .ok (.aload_n 0, 1) := by decide +kernel
theorem dX13_layWay_31 : decode cX13_layWay 31 = .ok (.iconst 0, 1) := by decide +kernel
theorem dX13_layWay_32 : decode cX13_layWay 32 = .ok (.putfield 307, 3) := by decide +kernel
theorem dX13_layWay_35 : decode cX13_layWay 35 = .ok (.iload_n 3, 1) := by decide +kernel
theorem dX13_layWay_36 : decode cX13_layWay 36 = .ok (.iconst (-1), 1) := by decide +kernel
theorem dX13_layWay_37 : decode cX13_layWay 37 = .ok (.if_icmp .eq 109, 3) := by decide +kernel
theorem dX13_layWay_40 : decode cX13_layWay 40 = .ok (.aload_n 0, 1) := by decide +kernel
theorem dX13_layWay_41 : decode cX13_layWay 41 = .ok (.getfield 307, 3) := by decide +kernel
theorem dX13_layWay_44 : decode cX13_layWay 44 = .ok (.istore 5, 2) := by decide +kernel
theorem dX13_layWay_46 : decode cX13_layWay 46 = .ok (.iload 5, 2) := by decide +kernel
theorem dX13_layWay_48 : decode cX13_layWay 48 = .ok (.ifCond .le 41, 3) := by decide +kernel
theorem dX13_layWay_51 : decode cX13_layWay 51 = .ok (.aload_n 0, 1) := by decide +kernel
theorem dX13_layWay_52 : decode cX13_layWay 52 = .ok (.getfield 63, 3) := by decide +kernel
theorem dX13_layWay_55 : decode cX13_layWay 55 = .ok (.iload 5, 2) := by decide +kernel
theorem dX13_layWay_57 : decode cX13_layWay 57 = .ok (.aload_n 0, 1) := by decide +kernel
theorem dX13_layWay_58 : decode cX13_layWay 58 = .ok (.getfield 63, 3) := by decide +kernel
theorem dX13_layWay_61 : decode cX13_layWay 61 = .ok (.iload 5, 2) := by decide +kernel
theorem dX13_layWay_63 : decode cX13_layWay 63 = .ok (.iconst 1, 1) := by decide +kernel
theorem dX13_layWay_64 : decode cX13_layWay 64 = .ok (.isub, 1) := by decide +kernel
theorem dX13_layWay_65 : decode cX13_layWay 65 = .ok (.iaload, 1) := by decide +kernel
theorem dX13_layWay_66 : decode cX13_layWay 66 = .ok (.iastore, 1) := by decide +kernel
theorem dX13_layWay_67 : decode cX13_layWay 67 = .ok (.aload_n 0, 1) := by decide +kernel
theorem dX13_layWay_68 : decode cX13_layWay 68 = .ok (.getfield 66, 3) := by decide +kernel
theorem dX13_layWay_71 : decode cX13_layWay 71 = .ok (.iload 5, 2) := by decide +kernel
theorem dX13_layWay_73 : decode cX13_layWay 73 = .ok (.aload_n 0, 1) := by decide +kernel
theorem dX13_layWay_74 : decode cX13_layWay 74 = .ok (.getfield 66, 3) := by decide +kernel
theorem dX13_layWay_77 : decode cX13_layWay 77 = .ok (.iload 5, 2) := by decide +kernel
theorem dX13_layWay_79 : decode cX13_layWay 79 = .ok (.iconst 1, 1) := by decide +kernel
theorem dX13_layWay_80 : decode cX13_layWay 80 = .ok (.isub, 1) := by decide +kernel
theorem dX13_layWay_81 : decode cX13_layWay 81 = .ok (.iaload, 1) := by decide +kernel
theorem dX13_layWay_82 : decode cX13_layWay 82 = .ok (.iastore, 1) := by decide +kernel
theorem dX13_layWay_83 : decode cX13_layWay 83 = .ok (.iinc 5 (-1), 3) := by decide +kernel
theorem dX13_layWay_86 : decode cX13_layWay 86 = .ok (.goto (-40), 3) := by decide +kernel
theorem dX13_layWay_89 : decode cX13_layWay 89 = .ok (.aload_n 0, 1) := by decide +kernel
theorem dX13_layWay_90 : decode cX13_layWay 90 = .ok (.getfield 63, 3) := by decide +kernel
theorem dX13_layWay_93 : decode cX13_layWay 93 = .ok (.iconst 0, 1) := by decide +kernel
theorem dX13_layWay_94 : decode cX13_layWay 94 = .ok (.iload_n 3, 1) := by decide +kernel
theorem dX13_layWay_95 : decode cX13_layWay 95 = .ok (.iastore, 1) := by decide +kernel
theorem dX13_layWay_96 : decode cX13_layWay 96 = .ok (.aload_n 0, 1) := by decide +kernel
theorem dX13_layWay_97 : decode cX13_layWay 97 = .ok (.getfield 66, 3) := by decide +kernel
theorem dX13_layWay_100 : decode cX13_layWay 100 = .ok (.iconst 0, 1) := by decide +kernel
theorem dX13_layWay_101 : decode cX13_layWay 101 = .ok (.iload 4, 2) := by decide +kernel
theorem dX13_layWay_103 : decode cX13_layWay 103 = .ok (.iastore, 1) := by decide +kernel
theorem dX13_layWay_104 : decode cX13_layWay 104 = .ok (.aload_n 0, 1) := by decide +kernel
theorem dX13_layWay_105 : decode cX13_layWay 105 = .ok (.dup, 1) := by decide +kernel
theorem dX13_layWay_106 : decode cX13_layWay 106 = .ok (.getfield 307, 3) := by decide +kernel
theorem dX13_layWay_109 : decode cX13_layWay 109 = .ok (.iconst 1, 1) := by decide +kernel
theorem dX13_layWay_110 : decode cX13_layWay 110 = .ok (.iadd, 1) := by decide +kernel
theorem dX13_layWay_111 : decode cX13_layWay 111 = .ok (.putfield 307, 3) := by decide +kernel
theorem dX13_layWay_114 : decode cX13_layWay 114 = .ok (.aload_n 0, 1) := by decide +kernel
theorem dX13_layWay_115 : decode cX13_layWay 115 = .ok (.getfield 40, 3) := by decide +kernel
theorem dX13_layWay_118 : decode cX13_layWay 118 = .ok (.aload_n 0, 1) := by decide +kernel
theorem dX13_layWay_119 : decode cX13_layWay 119 = .ok (.iload_n 1, 1) := by decide +kernel
theorem dX13_layWay_120 : decode cX13_layWay 120 = .ok (.iload_n 3, 1) := by decide +kernel
theorem dX13_layWay_121 : decode cX13_layWay 121 = .ok (.invokevirtual 249, 3) := by decide +kernel
theorem dX13_layWay_124 : decode cX13_layWay 124 = .ok (.iconst 4, 1) := by decide +kernel
theorem dX13_layWay_125 : decode cX13_layWay 125 = .ok (.iadd, 1) := by decide +kernel
theorem dX13_layWay_126 : decode cX13_layWay 126 = .ok (.iaload, 1) := by decide +kernel
theorem dX13_layWay_127 : decode cX13_layWay 127 = .ok (.istore 4, 2) := by decide +kernel
theorem dX13_layWay_129 : decode cX13_layWay 129 = .ok (.aload_n 0, 1) := by decide +kernel
theorem dX13_layWay_130 : decode cX13_layWay 130 = .ok (.getfield 40, 3) := by decide +kernel
theorem dX13_layWay_133 : decode cX13_layWay 133 = .ok (.aload_n 0, 1) := by decide +kernel
theorem dX13_layWay_134 : decode cX13_layWay 134 = .ok (.iload_n 1, 1) := by decide +kernel
theorem dX13_layWay_135 : decode cX13_layWay 135 = .ok (.iload_n 3, 1) := by decide +kernel
theorem dX13_layWay_136 : decode cX13_layWay 136 = .ok (.invokevirtual 249, 3) := by decide +kernel
theorem dX13_layWay_139 : decode cX13_layWay 139 = .ok (.iconst 3, 1) := by decide +kernel
theorem dX13_layWay_140 : decode cX13_layWay 140 = .ok (.iadd, 1) := by decide +kernel
theorem dX13_layWay_141 : decode cX13_layWay 141 = .ok (.iaload, 1) := by decide +kernel
theorem dX13_layWay_142 : decode cX13_layWay 142 = .ok (.istore_n 3, 1) := by decide +kernel
theorem dX13_layWay_143 : decode cX13_layWay 143 = .ok (.goto (-108), 3) := by decide +kernel
theorem dX13_layWay_146 : decode cX13_layWay 146 = .ok (.return_, 1) := by decide +kernel
theorem dX13_hasOf_0 : decode cX13_hasOf 0 = .ok (.aload_n 0, 1) := by decide +kernel
theorem dX13_hasOf_1 : decode cX13_hasOf 1 = .ok (.aload_n 0, 1) := by decide +kernel
theorem dX13_hasOf_2 : decode cX13_hasOf 2 = .ok (.getfield 52, 3) := by decide +kernel
theorem dX13_hasOf_5 : decode cX13_hasOf 5 = .ok (.iload_n 1, 1) := by decide +kernel
theorem dX13_hasOf_6 : decode cX13_hasOf 6 = .ok (.invokevirtual 310, 3) := by decide +kernel
theorem dX13_hasOf_9 : decode cX13_hasOf 9 = .ok (.iload_n 2, 1) := by decide +kernel
theorem dX13_hasOf_10 : decode cX13_hasOf 10 = .ok (.iconst 2, 1) := by decide +kernel
theorem dX13_hasOf_11 : decode cX13_hasOf 11 = .ok (.if_icmp .ge 22, 3) := by decide +kernel
theorem dX13_hasOf_14 : decode cX13_hasOf 14 = .ok (.aload_n 0, 1) := by decide +kernel
theorem dX13_hasOf_15 : decode cX13_hasOf 15 = .ok (.getfield 37, 3) := by decide +kernel
theorem dX13_hasOf_18 : decode cX13_hasOf 18 = .ok (.aload_n 0, 1) := by decide +kernel
theorem dX13_hasOf_19 : decode cX13_hasOf 19 = .ok (.aload_n 0, 1) := by decide +kernel
theorem dX13_hasOf_20 : decode cX13_hasOf 20 = .ok (.getfield 52, 3) := by decide +kernel
theorem dX13_hasOf_23 : decode cX13_hasOf 23 = .ok (.iload_n 1, 1) := by decide +kernel
theorem dX13_hasOf_24 : decode cX13_hasOf 24 = .ok (.invokevirtual 235, 3) := by decide +kernel
theorem dX13_hasOf_27 : decode cX13_hasOf 27 = .ok (.iload_n 2, 1) := by decide +kernel
theorem dX13_hasOf_28 : decode cX13_hasOf 28 = .ok (.iadd, 1) := by decide +kernel
theorem dX13_hasOf_29 : decode cX13_hasOf 29 = .ok (.iaload, 1) := by decide +kernel
theorem dX13_hasOf_30 : decode cX13_hasOf 30 = .ok (.goto 4, 3) := by decide +kernel
theorem dX13_hasOf_33 : decode cX13_hasOf 33 = .ok (.iconst 0, 1) := by decide +kernel
theorem dX13_hasOf_34 : decode cX13_hasOf 34 = .ok (.istore_n 3, 1) := by decide +kernel
theorem dX13_hasOf_35 : decode cX13_hasOf 35 = .ok (.iconst 0, 1) := by decide +kernel
theorem dX13_hasOf_36 : decode cX13_hasOf 36 = .ok (.istore 4, 2) := by decide +kernel
theorem dX13_hasOf_38 : decode cX13_hasOf 38 = .ok (.iload 4, 2) := by decide +kernel
theorem dX13_hasOf_40 : decode cX13_hasOf 40 = .ok (.aload_n 0, 1) := by decide +kernel
theorem dX13_hasOf_41 : decode cX13_hasOf 41 = .ok (.getfield 307, 3) := by decide +kernel
theorem dX13_hasOf_44 : decode cX13_hasOf 44 = .ok (.if_icmp .ge 43, 3) := by decide +kernel
theorem dX13_hasOf_47 : decode cX13_hasOf 47 = .ok (.iload_n 3, 1) := by decide +kernel
theorem dX13_hasOf_48 : decode cX13_hasOf 48 = .ok (.aload_n 0, 1) := by decide +kernel
theorem dX13_hasOf_49 : decode cX13_hasOf 49 = .ok (.getfield 43, 3) := by decide +kernel
theorem dX13_hasOf_52 : decode cX13_hasOf 52 = .ok (.aload_n 0, 1) := by decide +kernel
theorem dX13_hasOf_53 : decode cX13_hasOf 53 = .ok (.aload_n 0, 1) := by decide +kernel
theorem dX13_hasOf_54 : decode cX13_hasOf 54 = .ok (.getfield 52, 3) := by decide +kernel
theorem dX13_hasOf_57 : decode cX13_hasOf 57 = .ok (.aload_n 0, 1) := by decide +kernel
theorem dX13_hasOf_58 : decode cX13_hasOf 58 = .ok (.getfield 63, 3) := by decide +kernel
theorem dX13_hasOf_61 : decode cX13_hasOf 61 = .ok (.iload 4, 2) := by decide +kernel
theorem dX13_hasOf_63 : decode cX13_hasOf 63 = .ok (.iaload, 1) := by decide +kernel
theorem dX13_hasOf_64 : decode cX13_hasOf 64 = .ok (.aload_n 0, 1) := by decide +kernel
theorem dX13_hasOf_65 : decode cX13_hasOf 65 = .ok (.getfield 66, 3) := by decide +kernel
theorem dX13_hasOf_68 : decode cX13_hasOf 68 = .ok (.iload 4, 2) := by decide +kernel
theorem dX13_hasOf_70 : decode cX13_hasOf 70 = .ok (.iaload, 1) := by decide +kernel
theorem dX13_hasOf_71 : decode cX13_hasOf 71 = .ok (.invokevirtual 262, 3) := by decide +kernel
theorem dX13_hasOf_74 : decode cX13_hasOf 74 = .ok (.iconst 1, 1) := by decide +kernel
theorem dX13_hasOf_75 : decode cX13_hasOf 75 = .ok (.iadd, 1) := by decide +kernel
theorem dX13_hasOf_76 : decode cX13_hasOf 76 = .ok (.iload_n 2, 1) := by decide +kernel
theorem dX13_hasOf_77 : decode cX13_hasOf 77 = .ok (.iadd, 1) := by decide +kernel
theorem dX13_hasOf_78 : decode cX13_hasOf 78 = .ok (.iaload, 1) := by decide +kernel
theorem dX13_hasOf_79 : decode cX13_hasOf 79 = .ok (.iadd, 1) := by decide +kernel
theorem dX13_hasOf_80 : decode cX13_hasOf 80 = .ok (.istore_n 3, 1) := by decide +kernel
theorem dX13_hasOf_81 : decode cX13_hasOf 81 = .ok (.iinc 4 1, 3) := by decide +kernel
theorem dX13_hasOf_84 : decode cX13_hasOf 84 = .ok (.goto (-46), 3) := by decide +kernel
theorem dX13_hasOf_87 : decode cX13_hasOf 87 = .ok (.iload_n 3, 1) := by decide +kernel
theorem dX13_hasOf_88 : decode cX13_hasOf 88 = .ok (.ireturn, 1) := by decide +kernel
theorem dX13_factsOf_0 : decode cX13_factsOf 0 = .ok (.aload_n 0, 1) := by decide +kernel
theorem dX13_factsOf_1 : decode cX13_factsOf 1 = .ok (.aload_n 0, 1) := by decide +kernel
theorem dX13_factsOf_2 : decode cX13_factsOf 2 = .ok (.getfield 52, 3) := by decide +kernel
theorem dX13_factsOf_5 : decode cX13_factsOf 5 = .ok (.iload_n 1, 1) := by decide +kernel
theorem dX13_factsOf_6 : decode cX13_factsOf 6 = .ok (.invokevirtual 310, 3) := by decide +kernel
theorem dX13_factsOf_9 : decode cX13_factsOf 9 = .ok (.iconst 0, 1) := by decide +kernel
theorem dX13_factsOf_10 : decode cX13_factsOf 10 = .ok (.istore_n 2, 1) := by decide +kernel
theorem dX13_factsOf_11 : decode cX13_factsOf 11 = .ok (.iconst 0, 1) := by decide +kernel
theorem dX13_factsOf_12 : decode cX13_factsOf 12 = .ok (.istore_n 3, 1) := by decide +kernel
theorem dX13_factsOf_13 : decode cX13_factsOf 13 = .ok (.iload_n 3, 1) := by decide +kernel
theorem dX13_factsOf_14 : decode cX13_factsOf 14 = .ok (.aload_n 0, 1) := by decide +kernel
theorem dX13_factsOf_15 : decode cX13_factsOf 15 = .ok (.getfield 307, 3) := by decide +kernel
theorem dX13_factsOf_18 : decode cX13_factsOf 18 = .ok (.if_icmp .ge 55, 3) := by decide +kernel
theorem dX13_factsOf_21 : decode cX13_factsOf 21 = .ok (.aload_n 0, 1) := by decide +kernel
theorem dX13_factsOf_22 : decode cX13_factsOf 22 = .ok (.getfield 43, 3) := by decide +kernel
theorem dX13_factsOf_25 : decode cX13_factsOf 25 = .ok (.aload_n 0, 1) := by decide +kernel
theorem dX13_factsOf_26 : decode cX13_factsOf 26 = .ok (.aload_n 0, 1) := by decide +kernel
theorem dX13_factsOf_27 : decode cX13_factsOf 27 = .ok (.getfield 52, 3) := by decide +kernel
theorem dX13_factsOf_30 : decode cX13_factsOf 30 = .ok (.aload_n 0, 1) := by decide +kernel
theorem dX13_factsOf_31 : decode cX13_factsOf 31 = .ok (.getfield 63, 3) := by decide +kernel
theorem dX13_factsOf_34 : decode cX13_factsOf 34 = .ok (.iload_n 3, 1) := by decide +kernel
theorem dX13_factsOf_35 : decode cX13_factsOf 35 = .ok (.iaload, 1) := by decide +kernel
theorem dX13_factsOf_36 : decode cX13_factsOf 36 = .ok (.aload_n 0, 1) := by decide +kernel
theorem dX13_factsOf_37 : decode cX13_factsOf 37 = .ok (.getfield 66, 3) := by decide +kernel
theorem dX13_factsOf_40 : decode cX13_factsOf 40 = .ok (.iload_n 3, 1) := by decide +kernel
theorem dX13_factsOf_41 : decode cX13_factsOf 41 = .ok (.iaload, 1) := by decide +kernel
theorem dX13_factsOf_42 : decode cX13_factsOf 42 = .ok (.invokevirtual 262, 3) := by decide +kernel
theorem dX13_factsOf_45 : decode cX13_factsOf 45 = .ok (.iconst 4, 1) := by decide +kernel
theorem dX13_factsOf_46 : decode cX13_factsOf 46 = .ok (.iadd, 1) := by decide +kernel
theorem dX13_factsOf_47 : decode cX13_factsOf 47 = .ok (.iaload, 1) := by decide +kernel
theorem dX13_factsOf_48 : decode cX13_factsOf 48 = .ok (.istore 4, 2) := by decide +kernel
theorem dX13_factsOf_50 : decode cX13_factsOf 50 = .ok (.iload_n 2, 1) := by decide +kernel
theorem dX13_factsOf_51 : decode cX13_factsOf 51 = .ok (.iload 4, 2) := by decide +kernel
theorem dX13_factsOf_53 : decode cX13_factsOf 53 = .ok (.iconst (-1), 1) := by decide +kernel
theorem dX13_factsOf_54 : decode cX13_factsOf 54 = .ok (.if_icmp .ne 7, 3) := by decide +kernel
theorem dX13_factsOf_57 : decode cX13_factsOf 57 = .ok (.iconst 0, 1) := by decide +kernel
theorem dX13_factsOf_58 : decode cX13_factsOf 58 = .ok (.goto 7, 3) := by decide +kernel
theorem dX13_factsOf_61 : decode cX13_factsOf 61 = .ok (.iconst 1, 1) := by decide +kernel
theorem dX13_factsOf_62 : decode cX13_factsOf 62 = .ok (.iload 4, 2) := by decide +kernel
theorem dX13_factsOf_64 : decode cX13_factsOf 64 = .ok (.ishl, 1) := by decide +kernel
theorem dX13_factsOf_65 : decode cX13_factsOf 65 = .ok (.ior, 1) := by decide +kernel
theorem dX13_factsOf_66 : decode cX13_factsOf 66 = .ok (.istore_n 2, 1) := by decide +kernel
theorem dX13_factsOf_67 : decode cX13_factsOf 67 = .ok (.iinc 3 1, 3) := by decide +kernel
theorem dX13_factsOf_70 : decode cX13_factsOf 70 = .ok (.goto (-57), 3) := by decide +kernel
theorem dX13_factsOf_73 : decode cX13_factsOf 73 = .ok (.iload_n 2, 1) := by decide +kernel
theorem dX13_factsOf_74 : decode cX13_factsOf 74 = .ok (.ireturn, 1) := by decide +kernel
theorem dX13_isThere_0 : decode cX13_isThere 0 = .ok (.aload_n 0, 1) := by decide +kernel
theorem dX13_isThere_1 : decode cX13_isThere 1 = .ok (.aload_n 0, 1) := by decide +kernel
theorem dX13_isThere_2 : decode cX13_isThere 2 = .ok (.getfield 52, 3) := by decide +kernel
theorem dX13_isThere_5 : decode cX13_isThere 5 = .ok (.iload_n 1, 1) := by decide +kernel
theorem dX13_isThere_6 : decode cX13_isThere 6 = .ok (.invokevirtual 310, 3) := by decide +kernel
theorem dX13_isThere_9 : decode cX13_isThere 9 = .ok (.iconst 0, 1) := by decide +kernel
theorem dX13_isThere_10 : decode cX13_isThere 10 = .ok (.istore_n 2, 1) := by decide +kernel
theorem dX13_isThere_11 : decode cX13_isThere 11 = .ok (.iload_n 2, 1) := by decide +kernel
theorem dX13_isThere_12 : decode cX13_isThere 12 = .ok (.aload_n 0, 1) := by decide +kernel
theorem dX13_isThere_13 : decode cX13_isThere 13 = .ok (.getfield 307, 3) := by decide +kernel
theorem dX13_isThere_16 : decode cX13_isThere 16 = .ok (.if_icmp .ge 34, 3) := by decide +kernel
theorem dX13_isThere_19 : decode cX13_isThere 19 = .ok (.aload_n 0, 1) := by decide +kernel
theorem dX13_isThere_20 : decode cX13_isThere 20 = .ok (.getfield 56, 3) := by decide +kernel
theorem dX13_isThere_23 : decode cX13_isThere 23 = .ok (.iconst 4, 1) := by decide +kernel
theorem dX13_isThere_24 : decode cX13_isThere 24 = .ok (.aload_n 0, 1) := by decide +kernel
theorem dX13_isThere_25 : decode cX13_isThere 25 = .ok (.getfield 63, 3) := by decide +kernel
theorem dX13_isThere_28 : decode cX13_isThere 28 = .ok (.iload_n 2, 1) := by decide +kernel
theorem dX13_isThere_29 : decode cX13_isThere 29 = .ok (.iaload, 1) := by decide +kernel
theorem dX13_isThere_30 : decode cX13_isThere 30 = .ok (.imul, 1) := by decide +kernel
theorem dX13_isThere_31 : decode cX13_isThere 31 = .ok (.aload_n 0, 1) := by decide +kernel
theorem dX13_isThere_32 : decode cX13_isThere 32 = .ok (.getfield 66, 3) := by decide +kernel
theorem dX13_isThere_35 : decode cX13_isThere 35 = .ok (.iload_n 2, 1) := by decide +kernel
theorem dX13_isThere_36 : decode cX13_isThere 36 = .ok (.iaload, 1) := by decide +kernel
theorem dX13_isThere_37 : decode cX13_isThere 37 = .ok (.iadd, 1) := by decide +kernel
theorem dX13_isThere_38 : decode cX13_isThere 38 = .ok (.baload, 1) := by decide +kernel
theorem dX13_isThere_39 : decode cX13_isThere 39 = .ok (.ifCond .ne 5, 3) := by decide +kernel
theorem dX13_isThere_42 : decode cX13_isThere 42 = .ok (.iconst 0, 1) := by decide +kernel
theorem dX13_isThere_43 : decode cX13_isThere 43 = .ok (.ireturn, 1) := by decide +kernel
theorem dX13_isThere_44 : decode cX13_isThere 44 = .ok (.iinc 2 1, 3) := by decide +kernel
theorem dX13_isThere_47 : decode cX13_isThere 47 = .ok (.goto (-36), 3) := by decide +kernel
theorem dX13_isThere_50 : decode cX13_isThere 50 = .ok (.iconst 1, 1) := by decide +kernel
theorem dX13_isThere_51 : decode cX13_isThere 51 = .ok (.ireturn, 1) := by decide +kernel
theorem dX13_dead_0 : decode cX13_dead 0 = .ok (.aload_n 0, 1) := by decide +kernel
theorem dX13_dead_1 : decode cX13_dead 1 = .ok (.getfield 37, 3) := by decide +kernel
theorem dX13_dead_4 : decode cX13_dead 4 = .ok (.aload_n 0, 1) := by decide +kernel
theorem dX13_dead_5 : decode cX13_dead 5 = .ok (.aload_n 0, 1) := by decide +kernel
theorem dX13_dead_6 : decode cX13_dead 6 = .ok (.getfield 52, 3) := by decide +kernel
theorem dX13_dead_9 : decode cX13_dead 9 = .ok (.iload_n 1, 1) := by decide +kernel
theorem dX13_dead_10 : decode cX13_dead 10 = .ok (.invokevirtual 235, 3) := by decide +kernel
theorem dX13_dead_13 : decode cX13_dead 13 = .ok (.iconst 3, 1) := by decide +kernel
theorem dX13_dead_14 : decode cX13_dead 14 = .ok (.iadd, 1) := by decide +kernel
theorem dX13_dead_15 : decode cX13_dead 15 = .ok (.iaload, 1) := by decide +kernel
theorem dX13_dead_16 : decode cX13_dead 16 = .ok (.ireturn, 1) := by decide +kernel
theorem dX13_self_0 : decode cX13_self 0 = .ok (.aload_n 0, 1) := by decide +kernel
theorem dX13_self_1 : decode cX13_self 1 = .ok (.aload_n 0, 1) := by decide +kernel
theorem dX13_self_2 : decode cX13_self 2 = .ok (.iload_n 1, 1) := by decide +kernel
theorem dX13_self_3 : decode cX13_self 3 = .ok (.invokevirtual 313, 3) := by decide +kernel
theorem dX13_self_6 : decode cX13_self 6 = .ok (.ifCond .eq 19, 3) := by decide +kernel
theorem dX13_self_9 : decode cX13_self 9 = .ok (.iload_n 2, 1) := by decide +kernel
theorem dX13_self_10 : decode cX13_self 10 = .ok (.i2l, 1) := by decide +kernel
theorem dX13_self_11 : decode cX13_self 11 = .ok (.lconst 0, 1) := by decide +kernel
theorem dX13_self_12 : decode cX13_self 12 = .ok (.ldc2_w 316, 3) := by decide +kernel
theorem dX13_self_15 : decode cX13_self 15 = .ok (.invokestatic 231, 3) := by decide +kernel
theorem dX13_self_18 : decode cX13_self 18 = .ok (.ifCond .eq 7, 3) := by decide +kernel
theorem dX13_self_21 : decode cX13_self 21 = .ok (.iconst 0, 1) := by decide +kernel
theorem dX13_self_22 : decode cX13_self 22 = .ok (.goto 4, 3) := by decide +kernel
theorem dX13_self_25 : decode cX13_self 25 = .ok (.iconst 1, 1) := by decide +kernel
theorem dX13_self_26 : decode cX13_self 26 = .ok (.putfield 102, 3) := by decide +kernel
theorem dX13_self_29 : decode cX13_self 29 = .ok (.aload_n 0, 1) := by decide +kernel
theorem dX13_self_30 : decode cX13_self 30 = .ok (.getfield 102, 3) := by decide +kernel
theorem dX13_self_33 : decode cX13_self 33 = .ok (.ifCond .le 5, 3) := by decide +kernel
theorem dX13_self_36 : decode cX13_self 36 = .ok (.iconst 0, 1) := by decide +kernel
theorem dX13_self_37 : decode cX13_self 37 = .ok (.ireturn, 1) := by decide +kernel
theorem dX13_self_38 : decode cX13_self 38 = .ok (.iload_n 2, 1) := by decide +kernel
theorem dX13_self_39 : decode cX13_self 39 = .ok (.iconst 3, 1) := by decide +kernel
theorem dX13_self_40 : decode cX13_self 40 = .ok (.if_icmp .ge 10, 3) := by decide +kernel
theorem dX13_self_43 : decode cX13_self 43 = .ok (.aload_n 0, 1) := by decide +kernel
theorem dX13_self_44 : decode cX13_self 44 = .ok (.iload_n 1, 1) := by decide +kernel
theorem dX13_self_45 : decode cX13_self 45 = .ok (.iload_n 2, 1) := by decide +kernel
theorem dX13_self_46 : decode cX13_self 46 = .ok (.invokevirtual 318, 3) := by decide +kernel
theorem dX13_self_49 : decode cX13_self 49 = .ok (.ireturn, 1) := by decide +kernel
theorem dX13_self_50 : decode cX13_self 50 = .ok (.iload_n 2, 1) := by decide +kernel
theorem dX13_self_51 : decode cX13_self 51 = .ok (.bipush 6, 2) := by decide +kernel
theorem dX13_self_53 : decode cX13_self 53 = .ok (.if_icmp .ge 22, 3) := by decide +kernel
theorem dX13_self_56 : decode cX13_self 56 = .ok (.aload_n 0, 1) := by decide +kernel
theorem dX13_self_57 : decode cX13_self 57 = .ok (.getfield 37, 3) := by decide +kernel
theorem dX13_self_60 : decode cX13_self 60 = .ok (.aload_n 0, 1) := by decide +kernel
theorem dX13_self_61 : decode cX13_self 61 = .ok (.aload_n 0, 1) := by decide +kernel
theorem dX13_self_62 : decode cX13_self 62 = .ok (.getfield 52, 3) := by decide +kernel
theorem dX13_self_65 : decode cX13_self 65 = .ok (.iload_n 1, 1) := by decide +kernel
theorem dX13_self_66 : decode cX13_self 66 = .ok (.invokevirtual 235, 3) := by decide +kernel
theorem dX13_self_69 : decode cX13_self 69 = .ok (.iload_n 2, 1) := by decide +kernel
theorem dX13_self_70 : decode cX13_self 70 = .ok (.iadd, 1) := by decide +kernel
theorem dX13_self_71 : decode cX13_self 71 = .ok (.iconst 1, 1) := by decide +kernel
theorem dX13_self_72 : decode cX13_self 72 = .ok (.isub, 1) := by decide +kernel
theorem dX13_self_73 : decode cX13_self 73 = .ok (.iaload, 1) := by decide +kernel
theorem dX13_self_74 : decode cX13_self 74 = .ok (.ireturn, 1) := by decide +kernel
theorem dX13_self_75 : decode cX13_self 75 = .ok (.iload_n 2, 1) := by decide +kernel
theorem dX13_self_76 : decode cX13_self 76 = .ok (.bipush 6, 2) := by decide +kernel
theorem dX13_self_78 : decode cX13_self 78 = .ok (.if_icmp .ne 9, 3) := by decide +kernel
theorem dX13_self_81 : decode cX13_self 81 = .ok (.aload_n 0, 1) := by decide +kernel
theorem dX13_self_82 : decode cX13_self 82 = .ok (.iload_n 1, 1) := by decide +kernel
theorem dX13_self_83 : decode cX13_self 83 = .ok (.invokevirtual 321, 3) := by decide +kernel
theorem dX13_self_86 : decode cX13_self 86 = .ok (.ireturn, 1) := by decide +kernel
theorem dX13_self_87 : decode cX13_self 87 = .ok (.iload_n 2, 1) := by decide +kernel
theorem dX13_self_88 : decode cX13_self 88 = .ok (.bipush 7, 2) := by decide +kernel
theorem dX13_self_90 : decode cX13_self 90 = .ok (.if_icmp .ne 17, 3) := by decide +kernel
theorem dX13_self_93 : decode cX13_self 93 = .ok (.aload_n 0, 1) := by decide +kernel
theorem dX13_self_94 : decode cX13_self 94 = .ok (.iload_n 1, 1) := by decide +kernel
theorem dX13_self_95 : decode cX13_self 95 = .ok (.invokevirtual 324, 3) := by decide +kernel
theorem dX13_self_98 : decode cX13_self 98 = .ok (.ifCond .eq 7, 3) := by decide +kernel
theorem dX13_self_101 : decode cX13_self 101 = .ok (.iconst 1, 1) := by decide +kernel
theorem dX13_self_102 : decode cX13_self 102 = .ok (.goto 4, 3) := by decide +kernel
theorem dX13_self_105 : decode cX13_self 105 = .ok (.iconst 0, 1) := by decide +kernel
theorem dX13_self_106 : decode cX13_self 106 = .ok (.ireturn, 1) := by decide +kernel
theorem dX13_self_107 : decode cX13_self 107 = .ok (.aload_n 0, 1) := by decide +kernel
theorem dX13_self_108 : decode cX13_self 108 = .ok (.aload_n 0, 1) := by decide +kernel
theorem dX13_self_109 : decode cX13_self 109 = .ok (.getfield 52, 3) := by decide +kernel
theorem dX13_self_112 : decode cX13_self 112 = .ok (.iload_n 1, 1) := by decide +kernel
theorem dX13_self_113 : decode cX13_self 113 = .ok (.invokevirtual 310, 3) := by decide +kernel
theorem dX13_self_116 : decode cX13_self 116 = .ok (.aload_n 0, 1) := by decide +kernel
theorem dX13_self_117 : decode cX13_self 117 = .ok (.getfield 307, 3) := by decide +kernel
theorem dX13_self_120 : decode cX13_self 120 = .ok (.ireturn, 1) := by decide +kernel
theorem dX13_way_0 : decode cX13_way 0 = .ok (.aload_n 0, 1) := by decide +kernel
theorem dX13_way_1 : decode cX13_way 1 = .ok (.iconst 0, 1) := by decide +kernel
theorem dX13_way_2 : decode cX13_way 2 = .ok (.putfield 102, 3) := by decide +kernel
theorem dX13_way_5 : decode cX13_way 5 = .ok (.aload_n 0, 1) := by decide +kernel
theorem dX13_way_6 : decode cX13_way 6 = .ok (.iload_n 1, 1) := by decide +kernel
theorem dX13_way_7 : decode cX13_way 7 = .ok (.invokevirtual 313, 3) := by decide +kernel
theorem dX13_way_10 : decode cX13_way 10 = .ok (.ifCond .ne 5, 3) := by decide +kernel
theorem dX13_way_13 : decode cX13_way 13 = .ok (.iconst (-1), 1) := by decide +kernel
theorem dX13_way_14 : decode cX13_way 14 = .ok (.ireturn, 1) := by decide +kernel
theorem dX13_way_15 : decode cX13_way 15 = .ok (.aload_n 0, 1) := by decide +kernel
theorem dX13_way_16 : decode cX13_way 16 = .ok (.aload_n 0, 1) := by decide +kernel
theorem dX13_way_17 : decode cX13_way 17 = .ok (.getfield 52, 3) := by decide +kernel
theorem dX13_way_20 : decode cX13_way 20 = .ok (.iload_n 1, 1) := by decide +kernel
theorem dX13_way_21 : decode cX13_way 21 = .ok (.invokevirtual 310, 3) := by decide +kernel
theorem dX13_way_24 : decode cX13_way 24 = .ok (.iload_n 2, 1) := by decide +kernel
theorem dX13_way_25 : decode cX13_way 25 = .ok (.i2l, 1) := by decide +kernel
theorem dX13_way_26 : decode cX13_way 26 = .ok (.lconst 0, 1) := by decide +kernel
theorem dX13_way_27 : decode cX13_way 27 = .ok (.aload_n 0, 1) := by decide +kernel
theorem dX13_way_28 : decode cX13_way 28 = .ok (.getfield 307, 3) := by decide +kernel
theorem dX13_way_31 : decode cX13_way 31 = .ok (.iconst 1, 1) := by decide +kernel
theorem dX13_way_32 : decode cX13_way 32 = .ok (.isub, 1) := by decide +kernel
theorem dX13_way_33 : decode cX13_way 33 = .ok (.i2l, 1) := by decide +kernel
theorem dX13_way_34 : decode cX13_way 34 = .ok (.invokestatic 231, 3) := by decide +kernel
theorem dX13_way_37 : decode cX13_way 37 = .ok (.ifCond .eq 22, 3) := by decide +kernel
theorem dX13_way_40 : decode cX13_way 40 = .ok (.bipush 10, 2) := by decide +kernel
theorem dX13_way_42 : decode cX13_way 42 = .ok (.aload_n 0, 1) := by decide +kernel
theorem dX13_way_43 : decode cX13_way 43 = .ok (.getfield 63, 3) := by decide +kernel
theorem dX13_way_46 : decode cX13_way 46 = .ok (.iload_n 2, 1) := by decide +kernel
theorem dX13_way_47 : decode cX13_way 47 = .ok (.iaload, 1) := by decide +kernel
theorem dX13_way_48 : decode cX13_way 48 = .ok (.imul, 1) := by decide +kernel
theorem dX13_way_49 : decode cX13_way 49 = .ok (.aload_n 0, 1) := by decide +kernel
theorem dX13_way_50 : decode cX13_way 50 = .ok (.getfield 66, 3) := by decide +kernel
theorem dX13_way_53 : decode cX13_way 53 = .ok (.iload_n 2, 1) := by decide +kernel
theorem dX13_way_54 : decode cX13_way 54 = .ok (.iaload, 1) := by decide +kernel
theorem dX13_way_55 : decode cX13_way 55 = .ok (.iadd, 1) := by decide +kernel
theorem dX13_way_56 : decode cX13_way 56 = .ok (.goto 4, 3) := by decide +kernel
theorem dX13_way_59 : decode cX13_way 59 = .ok (.iconst (-1), 1) := by decide +kernel
theorem dX13_way_60 : decode cX13_way 60 = .ok (.ireturn, 1) := by decide +kernel
theorem dX13_openMany_0 : decode cX13_openMany 0 = .ok (.iconst 0, 1) := by decide +kernel
theorem dX13_openMany_1 : decode cX13_openMany 1 = .ok (.istore_n 2, 1) := by decide +kernel
theorem dX13_openMany_2 : decode cX13_openMany 2 = .ok (.iconst 0, 1) := by decide +kernel
theorem dX13_openMany_3 : decode cX13_openMany 3 = .ok (.istore_n 3, 1) := by decide +kernel
theorem dX13_openMany_4 : decode cX13_openMany 4 = .ok (.iload_n 3, 1) := by decide +kernel
theorem dX13_openMany_5 : decode cX13_openMany 5 = .ok (.aload_n 0, 1) := by decide +kernel
theorem dX13_openMany_6 : decode cX13_openMany 6 = .ok (.getfield 40, 3) := by decide +kernel
theorem dX13_openMany_9 : decode cX13_openMany 9 = .ok (.aload_n 0, 1) := by decide +kernel
theorem dX13_openMany_10 : decode cX13_openMany 10 = .ok (.aload_n 0, 1) := by decide +kernel
theorem dX13_openMany_11 : decode cX13_openMany 11 = .ok (.getfield 52, 3) := by decide +kernel
theorem dX13_openMany_14 : decode cX13_openMany 14 = .ok (.iload_n 1, 1) := by decide +kernel
theorem dX13_openMany_15 : decode cX13_openMany 15 = .ok (.invokevirtual 249, 3) := by decide +kernel
theorem dX13_openMany_18 : decode cX13_openMany 18 = .ok (.iconst 2, 1) := by decide +kernel
theorem dX13_openMany_19 : decode cX13_openMany 19 = .ok (.iadd, 1) := by decide +kernel
theorem dX13_openMany_20 : decode cX13_openMany 20 = .ok (.iaload, 1) := by decide +kernel
theorem dX13_openMany_21 : decode cX13_openMany 21 = .ok (.if_icmp .ge 30, 3) := by decide +kernel
theorem dX13_openMany_24 : decode cX13_openMany 24 = .ok (.iload_n 2, 1) := by decide +kernel
theorem dX13_openMany_25 : decode cX13_openMany 25 = .ok (.aload_n 0, 1) := by decide +kernel
theorem dX13_openMany_26 : decode cX13_openMany 26 = .ok (.getfield 56, 3) := by decide +kernel
theorem dX13_openMany_29 : decode cX13_openMany 29 = .ok (.iconst 4, 1) := by decide +kernel
theorem dX13_openMany_30 : decode cX13_openMany 30 = .ok (.iload_n 1, 1) := by decide +kernel
theorem dX13_openMany_31 : decode cX13_openMany 31 = .ok (.imul, 1) := by decide +kernel
theorem dX13_openMany_32 : decode cX13_openMany 32 = .ok (.iload_n 3, 1) := by decide +kernel
theorem dX13_openMany_33 : decode cX13_openMany 33 = .ok (.iadd, 1) := by decide +kernel
theorem dX13_openMany_34 : decode cX13_openMany 34 = .ok (.baload, 1) := by decide +kernel
theorem dX13_openMany_35 : decode cX13_openMany 35 = .ok (.ifCond .eq 7, 3) := by decide +kernel
theorem dX13_openMany_38 : decode cX13_openMany 38 = .ok (.iconst 1, 1) := by decide +kernel
theorem dX13_openMany_39 : decode cX13_openMany 39 = .ok (.goto 4, 3) := by decide +kernel
theorem dX13_openMany_42 : decode cX13_openMany 42 = .ok (.iconst 0, 1) := by decide +kernel
theorem dX13_openMany_43 : decode cX13_openMany 43 = .ok (.iadd, 1) := by decide +kernel
theorem dX13_openMany_44 : decode cX13_openMany 44 = .ok (.istore_n 2, 1) := by decide +kernel
theorem dX13_openMany_45 : decode cX13_openMany 45 = .ok (.iinc 3 1, 3) := by decide +kernel
theorem dX13_openMany_48 : decode cX13_openMany 48 = .ok (.goto (-44), 3) := by decide +kernel
theorem dX13_openMany_51 : decode cX13_openMany 51 = .ok (.iload_n 2, 1) := by decide +kernel
theorem dX13_openMany_52 : decode cX13_openMany 52 = .ok (.ireturn, 1) := by decide +kernel
theorem dX13_behind_0 : decode cX13_behind 0 = .ok (.iconst 0, 1) := by decide +kernel
theorem dX13_behind_1 : decode cX13_behind 1 = .ok (.istore_n 2, 1) := by decide +kernel
theorem dX13_behind_2 : decode cX13_behind 2 = .ok (.iconst 0, 1) := by decide +kernel
theorem dX13_behind_3 : decode cX13_behind 3 = .ok (.istore_n 3, 1) := by decide +kernel
theorem dX13_behind_4 : decode cX13_behind 4 = .ok (.iload_n 3, 1) := by decide +kernel
theorem dX13_behind_5 : decode cX13_behind 5 = .ok (.aload_n 0, 1) := by decide +kernel
theorem dX13_behind_6 : decode cX13_behind 6 = .ok (.getfield 46, 3) := by decide +kernel
theorem dX13_behind_9 : decode cX13_behind 9 = .ok (.aload_n 0, 1) := by decide +kernel
theorem dX13_behind_10 : decode cX13_behind 10 = .ok (.getfield 52, 3) := by decide +kernel
theorem dX13_behind_13 : decode cX13_behind 13 = .ok (.iaload, 1) := by decide +kernel
theorem dX13_behind_14 : decode cX13_behind 14 = .ok (.if_icmp .ge 57, 3) := by decide +kernel
theorem dX13_behind_17 : decode cX13_behind 17 = .ok (.aload_n 0, 1) := by decide +kernel
theorem dX13_behind_18 : decode cX13_behind 18 = .ok (.aload_n 0, 1) := by decide +kernel
theorem dX13_behind_19 : decode cX13_behind 19 = .ok (.getfield 52, 3) := by decide +kernel
theorem dX13_behind_22 : decode cX13_behind 22 = .ok (.iload_n 3, 1) := by decide +kernel
theorem dX13_behind_23 : decode cX13_behind 23 = .ok (.invokevirtual 310, 3) := by decide +kernel
theorem dX13_behind_26 : decode cX13_behind 26 = .ok (.iconst 0, 1) := by decide +kernel
theorem dX13_behind_27 : decode cX13_behind 27 = .ok (.istore 4, 2) := by decide +kernel
theorem dX13_behind_29 : decode cX13_behind 29 = .ok (.iload 4, 2) := by decide +kernel
theorem dX13_behind_31 : decode cX13_behind 31 = .ok (.aload_n 0, 1) := by decide +kernel
theorem dX13_behind_32 : decode cX13_behind 32 = .ok (.getfield 307, 3) := by decide +kernel
theorem dX13_behind_35 : decode cX13_behind 35 = .ok (.if_icmp .ge 30, 3) := by decide +kernel
theorem dX13_behind_38 : decode cX13_behind 38 = .ok (.iload_n 2, 1) := by decide +kernel
theorem dX13_behind_39 : decode cX13_behind 39 = .ok (.aload_n 0, 1) := by decide +kernel
theorem dX13_behind_40 : decode cX13_behind 40 = .ok (.getfield 63, 3) := by decide +kernel
theorem dX13_behind_43 : decode cX13_behind 43 = .ok (.iload 4, 2) := by decide +kernel
theorem dX13_behind_45 : decode cX13_behind 45 = .ok (.iaload, 1) := by decide +kernel
theorem dX13_behind_46 : decode cX13_behind 46 = .ok (.iload_n 1, 1) := by decide +kernel
theorem dX13_behind_47 : decode cX13_behind 47 = .ok (.if_icmp .ne 9, 3) := by decide +kernel
theorem dX13_behind_50 : decode cX13_behind 50 = .ok (.iconst 1, 1) := by decide +kernel
theorem dX13_behind_51 : decode cX13_behind 51 = .ok (.iload_n 3, 1) := by decide +kernel
theorem dX13_behind_52 : decode cX13_behind 52 = .ok (.ishl, 1) := by decide +kernel
theorem dX13_behind_53 : decode cX13_behind 53 = .ok (.goto 4, 3) := by decide +kernel
theorem dX13_behind_56 : decode cX13_behind 56 = .ok (.iconst 0, 1) := by decide +kernel
theorem dX13_behind_57 : decode cX13_behind 57 = .ok (.ior, 1) := by decide +kernel
theorem dX13_behind_58 : decode cX13_behind 58 = .ok (.istore_n 2, 1) := by decide +kernel
theorem dX13_behind_59 : decode cX13_behind 59 = .ok (.iinc 4 1, 3) := by decide +kernel
theorem dX13_behind_62 : decode cX13_behind 62 = .ok (.goto (-33), 3) := by decide +kernel
theorem dX13_behind_65 : decode cX13_behind 65 = .ok (.iinc 3 1, 3) := by decide +kernel
theorem dX13_behind_68 : decode cX13_behind 68 = .ok (.goto (-64), 3) := by decide +kernel
theorem dX13_behind_71 : decode cX13_behind 71 = .ok (.iload_n 2, 1) := by decide +kernel
theorem dX13_behind_72 : decode cX13_behind 72 = .ok (.ireturn, 1) := by decide +kernel
theorem dX13_fork_0 : decode cX13_fork 0 = .ok (.aload_n 0, 1) := by decide +kernel
theorem dX13_fork_1 : decode cX13_fork 1 = .ok (.iconst 0, 1) := by decide +kernel
theorem dX13_fork_2 : decode cX13_fork 2 = .ok (.putfield 102, 3) := by decide +kernel
theorem dX13_fork_5 : decode cX13_fork 5 = .ok (.aload_n 0, 1) := by decide +kernel
theorem dX13_fork_6 : decode cX13_fork 6 = .ok (.iload_n 1, 1) := by decide +kernel
theorem dX13_fork_7 : decode cX13_fork 7 = .ok (.invokevirtual 304, 3) := by decide +kernel
theorem dX13_fork_10 : decode cX13_fork 10 = .ok (.ifCond .eq 15, 3) := by decide +kernel
theorem dX13_fork_13 : decode cX13_fork 13 = .ok (.iload_n 2, 1) := by decide +kernel
theorem dX13_fork_14 : decode cX13_fork 14 = .ok (.i2l, 1) := by decide +kernel
theorem dX13_fork_15 : decode cX13_fork 15 = .ok (.lconst 0, 1) := by decide +kernel
theorem dX13_fork_16 : decode cX13_fork 16 = .ok (.ldc2_w 327, 3) := by decide +kernel
theorem dX13_fork_19 : decode cX13_fork 19 = .ok (.invokestatic 231, 3) := by decide +kernel
theorem dX13_fork_22 : decode cX13_fork 22 = .ok (.ifCond .ne 5, 3) := by decide +kernel
theorem dX13_fork_25 : decode cX13_fork 25 = .ok (.iconst (-1), 1) := by decide +kernel
theorem dX13_fork_26 : decode cX13_fork 26 = .ok (.ireturn, 1) := by decide +kernel
theorem dX13_fork_27 : decode cX13_fork 27 = .ok (.iload_n 2, 1) := by decide +kernel
theorem dX13_fork_28 : decode cX13_fork 28 = .ok (.iconst 3, 1) := by decide +kernel
theorem dX13_fork_29 : decode cX13_fork 29 = .ok (.if_icmp .ge 22, 3) := by decide +kernel
theorem dX13_fork_32 : decode cX13_fork 32 = .ok (.aload_n 0, 1) := by decide +kernel
theorem dX13_fork_33 : decode cX13_fork 33 = .ok (.getfield 40, 3) := by decide +kernel
theorem dX13_fork_36 : decode cX13_fork 36 = .ok (.aload_n 0, 1) := by decide +kernel
theorem dX13_fork_37 : decode cX13_fork 37 = .ok (.aload_n 0, 1) := by decide +kernel
theorem dX13_fork_38 : decode cX13_fork 38 = .ok (.getfield 52, 3) := by decide +kernel
theorem dX13_fork_41 : decode cX13_fork 41 = .ok (.iload_n 1, 1) := by decide +kernel
theorem dX13_fork_42 : decode cX13_fork 42 = .ok (.invokevirtual 249, 3) := by decide +kernel
theorem dX13_fork_45 : decode cX13_fork 45 = .ok (.iload_n 2, 1) := by decide +kernel
theorem dX13_fork_46 : decode cX13_fork 46 = .ok (.iadd, 1) := by decide +kernel
theorem dX13_fork_47 : decode cX13_fork 47 = .ok (.iaload, 1) := by decide +kernel
theorem dX13_fork_48 : decode cX13_fork 48 = .ok (.goto 45, 3) := by decide +kernel
theorem dX13_fork_51 : decode cX13_fork 51 = .ok (.iload_n 2, 1) := by decide +kernel
theorem dX13_fork_52 : decode cX13_fork 52 = .ok (.iconst 3, 1) := by decide +kernel
theorem dX13_fork_53 : decode cX13_fork 53 = .ok (.if_icmp .ne 11, 3) := by decide +kernel
theorem dX13_fork_56 : decode cX13_fork 56 = .ok (.aload_n 0, 1) := by decide +kernel
theorem dX13_fork_57 : decode cX13_fork 57 = .ok (.iload_n 1, 1) := by decide +kernel
theorem dX13_fork_58 : decode cX13_fork 58 = .ok (.invokevirtual 329, 3) := by decide +kernel
theorem dX13_fork_61 : decode cX13_fork 61 = .ok (.goto 32, 3) := by decide +kernel
theorem dX13_fork_64 : decode cX13_fork 64 = .ok (.iload_n 2, 1) := by decide +kernel
theorem dX13_fork_65 : decode cX13_fork 65 = .ok (.iconst 4, 1) := by decide +kernel
theorem dX13_fork_66 : decode cX13_fork 66 = .ok (.if_icmp .ne 22, 3) := by decide +kernel
theorem dX13_fork_69 : decode cX13_fork 69 = .ok (.aload_n 0, 1) := by decide +kernel
theorem dX13_fork_70 : decode cX13_fork 70 = .ok (.getfield 40, 3) := by decide +kernel
theorem dX13_fork_73 : decode cX13_fork 73 = .ok (.aload_n 0, 1) := by decide +kernel
theorem dX13_fork_74 : decode cX13_fork 74 = .ok (.aload_n 0, 1) := by decide +kernel
theorem dX13_fork_75 : decode cX13_fork 75 = .ok (.getfield 52, 3) := by decide +kernel
theorem dX13_fork_78 : decode cX13_fork 78 = .ok (.iload_n 1, 1) := by decide +kernel
theorem dX13_fork_79 : decode cX13_fork 79 = .ok (.invokevirtual 249, 3) := by decide +kernel
theorem dX13_fork_82 : decode cX13_fork 82 = .ok (.iconst 3, 1) := by decide +kernel
theorem dX13_fork_83 : decode cX13_fork 83 = .ok (.iadd, 1) := by decide +kernel
theorem dX13_fork_84 : decode cX13_fork 84 = .ok (.iaload, 1) := by decide +kernel
theorem dX13_fork_85 : decode cX13_fork 85 = .ok (.goto 8, 3) := by decide +kernel
theorem dX13_fork_88 : decode cX13_fork 88 = .ok (.aload_n 0, 1) := by decide +kernel
theorem dX13_fork_89 : decode cX13_fork 89 = .ok (.iload_n 1, 1) := by decide +kernel
theorem dX13_fork_90 : decode cX13_fork 90 = .ok (.invokevirtual 332, 3) := by decide +kernel
theorem dX13_fork_93 : decode cX13_fork 93 = .ok (.ireturn, 1) := by decide +kernel
theorem dX13_branch_0 : decode cX13_branch 0 = .ok (.aload_n 0, 1) := by decide +kernel
theorem dX13_branch_1 : decode cX13_branch 1 = .ok (.iconst 0, 1) := by decide +kernel
theorem dX13_branch_2 : decode cX13_branch 2 = .ok (.putfield 102, 3) := by decide +kernel
theorem dX13_branch_5 : decode cX13_branch 5 = .ok (.aload_n 0, 1) := by decide +kernel
theorem dX13_branch_6 : decode cX13_branch 6 = .ok (.iload_n 1, 1) := by decide +kernel
theorem dX13_branch_7 : decode cX13_branch 7 = .ok (.iload_n 2, 1) := by decide +kernel
theorem dX13_branch_8 : decode cX13_branch 8 = .ok (.invokevirtual 335, 3) := by decide +kernel
theorem dX13_branch_11 : decode cX13_branch 11 = .ok (.ifCond .eq 15, 3) := by decide +kernel
theorem dX13_branch_14 : decode cX13_branch 14 = .ok (.iload_n 3, 1) := by decide +kernel
theorem dX13_branch_15 : decode cX13_branch 15 = .ok (.i2l, 1) := by decide +kernel
theorem dX13_branch_16 : decode cX13_branch 16 = .ok (.lconst 0, 1) := by decide +kernel
theorem dX13_branch_17 : decode cX13_branch 17 = .ok (.ldc2_w 338, 3) := by decide +kernel
theorem dX13_branch_20 : decode cX13_branch 20 = .ok (.invokestatic 231, 3) := by decide +kernel
theorem dX13_branch_23 : decode cX13_branch 23 = .ok (.ifCond .ne 5, 3) := by decide +kernel
theorem dX13_branch_26 : decode cX13_branch 26 = .ok (.iconst (-1), 1) := by decide +kernel
theorem dX13_branch_27 : decode cX13_branch 27 = .ok (.ireturn, 1) := by decide +kernel
theorem dX13_branch_28 : decode cX13_branch 28 = .ok (.iload_n 3, 1) := by decide +kernel
theorem dX13_branch_29 : decode cX13_branch 29 = .ok (.iconst 5, 1) := by decide +kernel
theorem dX13_branch_30 : decode cX13_branch 30 = .ok (.if_icmp .ge 23, 3) := by decide +kernel
theorem dX13_branch_33 : decode cX13_branch 33 = .ok (.aload_n 0, 1) := by decide +kernel
theorem dX13_branch_34 : decode cX13_branch 34 = .ok (.getfield 43, 3) := by decide +kernel
theorem dX13_branch_37 : decode cX13_branch 37 = .ok (.aload_n 0, 1) := by decide +kernel
theorem dX13_branch_38 : decode cX13_branch 38 = .ok (.aload_n 0, 1) := by decide +kernel
theorem dX13_branch_39 : decode cX13_branch 39 = .ok (.getfield 52, 3) := by decide +kernel
theorem dX13_branch_42 : decode cX13_branch 42 = .ok (.iload_n 1, 1) := by decide +kernel
theorem dX13_branch_43 : decode cX13_branch 43 = .ok (.iload_n 2, 1) := by decide +kernel
theorem dX13_branch_44 : decode cX13_branch 44 = .ok (.invokevirtual 262, 3) := by decide +kernel
theorem dX13_branch_47 : decode cX13_branch 47 = .ok (.iload_n 3, 1) := by decide +kernel
theorem dX13_branch_48 : decode cX13_branch 48 = .ok (.iadd, 1) := by decide +kernel
theorem dX13_branch_49 : decode cX13_branch 49 = .ok (.iaload, 1) := by decide +kernel
theorem dX13_branch_50 : decode cX13_branch 50 = .ok (.goto 46, 3) := by decide +kernel
theorem dX13_branch_53 : decode cX13_branch 53 = .ok (.iload_n 3, 1) := by decide +kernel
theorem dX13_branch_54 : decode cX13_branch 54 = .ok (.iconst 5, 1) := by decide +kernel
theorem dX13_branch_55 : decode cX13_branch 55 = .ok (.if_icmp .ne 24, 3) := by decide +kernel
theorem dX13_branch_58 : decode cX13_branch 58 = .ok (.aload_n 0, 1) := by decide +kernel
theorem dX13_branch_59 : decode cX13_branch 59 = .ok (.getfield 56, 3) := by decide +kernel
theorem dX13_branch_62 : decode cX13_branch 62 = .ok (.iconst 4, 1) := by decide +kernel
theorem dX13_branch_63 : decode cX13_branch 63 = .ok (.iload_n 1, 1) := by decide +kernel
theorem dX13_branch_64 : decode cX13_branch 64 = .ok (.imul, 1) := by decide +kernel
theorem dX13_branch_65 : decode cX13_branch 65 = .ok (.iload_n 2, 1) := by decide +kernel
theorem dX13_branch_66 : decode cX13_branch 66 = .ok (.iadd, 1) := by decide +kernel
theorem dX13_branch_67 : decode cX13_branch 67 = .ok (.baload, 1) := by decide +kernel
theorem dX13_branch_68 : decode cX13_branch 68 = .ok (.ifCond .eq 7, 3) := by decide +kernel
theorem dX13_branch_71 : decode cX13_branch 71 = .ok (.iconst 1, 1) := by decide +kernel
theorem dX13_branch_72 : decode cX13_branch 72 = .ok (.goto 24, 3) := by decide +kernel
theorem dX13_branch_75 : decode cX13_branch 75 = .ok (.iconst 0, 1) := by decide +kernel
theorem dX13_branch_76 : decode cX13_branch 76 = .ok (.goto 20, 3) := by decide +kernel
theorem dX13_branch_79 : decode cX13_branch 79 = .ok (.aload_n 0, 1) := by decide +kernel
theorem dX13_branch_80 : decode cX13_branch 80 = .ok (.getfield 43, 3) := by decide +kernel
theorem dX13_branch_83 : decode cX13_branch 83 = .ok (.aload_n 0, 1) := by decide +kernel
theorem dX13_branch_84 : decode cX13_branch 84 = .ok (.aload_n 0, 1) := by decide +kernel
theorem dX13_branch_85 : decode cX13_branch 85 = .ok (.getfield 52, 3) := by decide +kernel
theorem dX13_branch_88 : decode cX13_branch 88 = .ok (.iload_n 1, 1) := by decide +kernel
theorem dX13_branch_89 : decode cX13_branch 89 = .ok (.iload_n 2, 1) := by decide +kernel
theorem dX13_branch_90 : decode cX13_branch 90 = .ok (.invokevirtual 262, 3) := by decide +kernel
theorem dX13_branch_93 : decode cX13_branch 93 = .ok (.iconst 5, 1) := by decide +kernel
theorem dX13_branch_94 : decode cX13_branch 94 = .ok (.iadd, 1) := by decide +kernel
theorem dX13_branch_95 : decode cX13_branch 95 = .ok (.iaload, 1) := by decide +kernel
theorem dX13_branch_96 : decode cX13_branch 96 = .ok (.ireturn, 1) := by decide +kernel
theorem dX13_partOf_0 : decode cX13_partOf 0 = .ok (.iconst (-1), 1) := by decide +kernel
theorem dX13_partOf_1 : decode cX13_partOf 1 = .ok (.istore_n 3, 1) := by decide +kernel
theorem dX13_partOf_2 : decode cX13_partOf 2 = .ok (.iconst 0, 1) := by decide +kernel
theorem dX13_partOf_3 : decode cX13_partOf 3 = .ok (.istore 4, 2) := by decide +kernel
theorem dX13_partOf_5 : decode cX13_partOf 5 = .ok (.iload 4, 2) := by decide +kernel
theorem dX13_partOf_7 : decode cX13_partOf 7 = .ok (.aload_n 0, 1) := by decide +kernel
theorem dX13_partOf_8 : decode cX13_partOf 8 = .ok (.getfield 49, 3) := by decide +kernel
theorem dX13_partOf_11 : decode cX13_partOf 11 = .ok (.aload_n 0, 1) := by decide +kernel
theorem dX13_partOf_12 : decode cX13_partOf 12 = .ok (.getfield 52, 3) := by decide +kernel
theorem dX13_partOf_15 : decode cX13_partOf 15 = .ok (.iaload, 1) := by decide +kernel
theorem dX13_partOf_16 : decode cX13_partOf 16 = .ok (.if_icmp .ge 38, 3) := by decide +kernel
theorem dX13_partOf_19 : decode cX13_partOf 19 = .ok (.aload_n 0, 1) := by decide +kernel
theorem dX13_partOf_20 : decode cX13_partOf 20 = .ok (.iload 4, 2) := by decide +kernel
theorem dX13_partOf_22 : decode cX13_partOf 22 = .ok (.invokevirtual 332, 3) := by decide +kernel
theorem dX13_partOf_25 : decode cX13_partOf 25 = .ok (.istore 5, 2) := by decide +kernel
theorem dX13_partOf_27 : decode cX13_partOf 27 = .ok (.iload 5, 2) := by decide +kernel
theorem dX13_partOf_29 : decode cX13_partOf 29 = .ok (.iload_n 1, 1) := by decide +kernel
theorem dX13_partOf_30 : decode cX13_partOf 30 = .ok (.invokestatic 224, 3) := by decide +kernel
theorem dX13_partOf_33 : decode cX13_partOf 33 = .ok (.ifCond .eq 15, 3) := by decide +kernel
theorem dX13_partOf_36 : decode cX13_partOf 36 = .ok (.iload 5, 2) := by decide +kernel
theorem dX13_partOf_38 : decode cX13_partOf 38 = .ok (.iload_n 2, 1) := by decide +kernel
theorem dX13_partOf_39 : decode cX13_partOf 39 = .ok (.invokestatic 224, 3) := by decide +kernel
theorem dX13_partOf_42 : decode cX13_partOf 42 = .ok (.ifCond .eq 6, 3) := by decide +kernel
theorem dX13_partOf_45 : decode cX13_partOf 45 = .ok (.iload 4, 2) := by decide +kernel
theorem dX13_partOf_47 : decode cX13_partOf 47 = .ok (.istore_n 3, 1) := by decide +kernel
theorem dX13_partOf_48 : decode cX13_partOf 48 = .ok (.iinc 4 1, 3) := by decide +kernel
theorem dX13_partOf_51 : decode cX13_partOf 51 = .ok (.goto (-46), 3) := by decide +kernel
theorem dX13_partOf_54 : decode cX13_partOf 54 = .ok (.iload_n 3, 1) := by decide +kernel
theorem dX13_partOf_55 : decode cX13_partOf 55 = .ok (.ireturn, 1) := by decide +kernel
theorem dX13_part__0 : decode cX13_part_ 0 = .ok (.aload_n 0, 1) := by decide +kernel
theorem dX13_part__1 : decode cX13_part_ 1 = .ok (.iconst 0, 1) := by decide +kernel
theorem dX13_part__2 : decode cX13_part_ 2 = .ok (.putfield 102, 3) := by decide +kernel
theorem dX13_part__5 : decode cX13_part_ 5 = .ok (.aload_n 0, 1) := by decide +kernel
theorem dX13_part__6 : decode cX13_part_ 6 = .ok (.iload_n 1, 1) := by decide +kernel
theorem dX13_part__7 : decode cX13_part_ 7 = .ok (.invokevirtual 313, 3) := by decide +kernel
theorem dX13_part__10 : decode cX13_part_ 10 = .ok (.ifCond .eq 26, 3) := by decide +kernel
theorem dX13_part__13 : decode cX13_part_ 13 = .ok (.aload_n 0, 1) := by decide +kernel
theorem dX13_part__14 : decode cX13_part_ 14 = .ok (.iload_n 2, 1) := by decide +kernel
theorem dX13_part__15 : decode cX13_part_ 15 = .ok (.invokevirtual 313, 3) := by decide +kernel
theorem dX13_part__18 : decode cX13_part_ 18 = .ok (.ifCond .eq 18, 3) := by decide +kernel
theorem dX13_part__21 : decode cX13_part_ 21 = .ok (.iload_n 1, 1) := by decide +kernel
theorem dX13_part__22 : decode cX13_part_ 22 = .ok (.iload_n 2, 1) := by decide +kernel
theorem dX13_part__23 : decode cX13_part_ 23 = .ok (.if_icmp .eq 13, 3) := by decide +kernel
theorem dX13_part__26 : decode cX13_part_ 26 = .ok (.iload_n 3, 1) := by decide +kernel
theorem dX13_part__27 : decode cX13_part_ 27 = .ok (.i2l, 1) := by decide +kernel
theorem dX13_part__28 : decode cX13_part_ 28 = .ok (.lconst 0, 1) := by decide +kernel
theorem dX13_part__29 : decode cX13_part_ 29 = .ok (.lconst 1, 1) := by decide +kernel
theorem dX13_part__30 : decode cX13_part_ 30 = .ok (.invokestatic 231, 3) := by decide +kernel
theorem dX13_part__33 : decode cX13_part_ 33 = .ok (.ifCond .ne 5, 3) := by decide +kernel
theorem dX13_part__36 : decode cX13_part_ 36 = .ok (.iconst (-1), 1) := by decide +kernel
theorem dX13_part__37 : decode cX13_part_ 37 = .ok (.ireturn, 1) := by decide +kernel
theorem dX13_part__38 : decode cX13_part_ 38 = .ok (.aload_n 0, 1) := by decide +kernel
theorem dX13_part__39 : decode cX13_part_ 39 = .ok (.iload_n 1, 1) := by decide +kernel
theorem dX13_part__40 : decode cX13_part_ 40 = .ok (.iload_n 2, 1) := by decide +kernel
theorem dX13_part__41 : decode cX13_part_ 41 = .ok (.invokevirtual 340, 3) := by decide +kernel
theorem dX13_part__44 : decode cX13_part_ 44 = .ok (.istore 4, 2) := by decide +kernel
theorem dX13_part__46 : decode cX13_part_ 46 = .ok (.iload_n 3, 1) := by decide +kernel
theorem dX13_part__47 : decode cX13_part_ 47 = .ok (.ifCond .ne 8, 3) := by decide +kernel
theorem dX13_part__50 : decode cX13_part_ 50 = .ok (.iload 4, 2) := by decide +kernel
theorem dX13_part__52 : decode cX13_part_ 52 = .ok (.goto 18, 3) := by decide +kernel
theorem dX13_part__55 : decode cX13_part_ 55 = .ok (.aload_n 0, 1) := by decide +kernel
theorem dX13_part__56 : decode cX13_part_ 56 = .ok (.getfield 40, 3) := by decide +kernel
theorem dX13_part__59 : decode cX13_part_ 59 = .ok (.aload_n 0, 1) := by decide +kernel
theorem dX13_part__60 : decode cX13_part_ 60 = .ok (.aload_n 0, 1) := by decide +kernel
theorem dX13_part__61 : decode cX13_part_ 61 = .ok (.getfield 52, 3) := by decide +kernel
theorem dX13_part__64 : decode cX13_part_ 64 = .ok (.iload 4, 2) := by decide +kernel
theorem dX13_part__66 : decode cX13_part_ 66 = .ok (.invokevirtual 249, 3) := by decide +kernel
theorem dX13_part__69 : decode cX13_part_ 69 = .ok (.iaload, 1) := by decide +kernel
theorem dX13_part__70 : decode cX13_part_ 70 = .ok (.ireturn, 1) := by decide +kernel
theorem dX13_remember_0 : decode cX13_remember 0 = .ok (.bipush 72, 2) := by decide +kernel
theorem dX13_remember_2 : decode cX13_remember 2 = .ok (.istore_n 1, 1) := by decide +kernel
theorem dX13_remember_3 : decode cX13_remember 3 = .ok (.aload_n 0, 1) := by decide +kernel
theorem dX13_remember_4 : decode cX13_remember 4 = .ok (.getfield 292, 3) := by decide +kernel
theorem dX13_remember_7 : decode cX13_remember 7 = .ok (.bipush 40, 2) := by decide +kernel
theorem dX13_remember_9 : decode cX13_remember 9 = .ok (.if_icmp .ne 72, 3) := by decide +kernel
theorem dX13_remember_12 : decode cX13_remember 12 = .ok (.iconst 0, 1) := by decide +kernel
theorem dX13_remember_13 : decode cX13_remember 13 = .ok (.istore_n 2, 1) := by decide +kernel
theorem dX13_remember_14 : decode cX13_remember 14 = .ok (.iload_n 2, 1) := by decide +kernel
theorem dX13_remember_15 : decode cX13_remember 15 = .ok (.iload_n 1, 1) := by decide +kernel
theorem dX13_remember_16 : decode cX13_remember 16 = .ok (.bipush 39, 2) := by decide +kernel
theorem dX13_remember_18 : decode cX13_remember 18 = .ok (.imul, 1) := by decide +kernel
theorem dX13_remember_19 : decode cX13_remember 19 = .ok (.if_icmp .ge 23, 3) := by decide +kernel
theorem dX13_remember_22 : decode cX13_remember 22 = .ok (.aload_n 0, 1) := by decide +kernel
theorem dX13_remember_23 : decode cX13_remember 23 = .ok (.getfield 69, 3) := by decide +kernel
theorem dX13_remember_26 : decode cX13_remember 26 = .ok (.iload_n 2, 1) := by decide +kernel
theorem dX13_remember_27 : decode cX13_remember 27 = .ok (.aload_n 0, 1) := by decide +kernel
theorem dX13_remember_28 : decode cX13_remember 28 = .ok (.getfield 69, 3) := by decide +kernel
theorem dX13_remember_31 : decode cX13_remember 31 = .ok (.iload_n 2, 1) := by decide +kernel
theorem dX13_remember_32 : decode cX13_remember 32 = .ok (.iload_n 1, 1) := by decide +kernel
theorem dX13_remember_33 : decode cX13_remember 33 = .ok (.iadd, 1) := by decide +kernel
theorem dX13_remember_34 : decode cX13_remember 34 = .ok (.baload, 1) := by decide +kernel
theorem dX13_remember_35 : decode cX13_remember 35 = .ok (.bastore, 1) := by decide +kernel
theorem dX13_remember_36 : decode cX13_remember 36 = .ok (.iinc 2 1, 3) := by decide +kernel
theorem dX13_remember_39 : decode cX13_remember 39 = .ok (.goto (-25), 3) := by decide +kernel
theorem dX13_remember_42 : decode cX13_remember 42 = .ok (.iconst 0, 1) := by decide +kernel
theorem dX13_remember_43 : decode cX13_remember 43 = .ok (.istore_n 2, 1) := by decide +kernel
theorem dX13_remember_44 : decode cX13_remember 44 = .ok (.iload_n 2, 1) := by decide +kernel
theorem dX13_remember_45 : decode cX13_remember 45 = .ok (.sipush 156, 3) := by decide +kernel
theorem dX13_remember_48 : decode cX13_remember 48 = .ok (.if_icmp .ge 23, 3) := by decide +kernel
theorem dX13_remember_51 : decode cX13_remember 51 = .ok (.aload_n 0, 1) := by decide +kernel
theorem dX13_remember_52 : decode cX13_remember 52 = .ok (.getfield 72, 3) := by decide +kernel
theorem dX13_remember_55 : decode cX13_remember 55 = .ok (.iload_n 2, 1) := by decide +kernel
theorem dX13_remember_56 : decode cX13_remember 56 = .ok (.aload_n 0, 1) := by decide +kernel
theorem dX13_remember_57 : decode cX13_remember 57 = .ok (.getfield 72, 3) := by decide +kernel
theorem dX13_remember_60 : decode cX13_remember 60 = .ok (.iload_n 2, 1) := by decide +kernel
theorem dX13_remember_61 : decode cX13_remember 61 = .ok (.iconst 4, 1) := by decide +kernel
theorem dX13_remember_62 : decode cX13_remember 62 = .ok (.iadd, 1) := by decide +kernel
theorem dX13_remember_63 : decode cX13_remember 63 = .ok (.iaload, 1) := by decide +kernel
theorem dX13_remember_64 : decode cX13_remember 64 = .ok (.iastore, 1) := by decide +kernel
theorem dX13_remember_65 : decode cX13_remember 65 = .ok (.iinc 2 1, 3) := by decide +kernel
theorem dX13_remember_68 : decode cX13_remember 68 = .ok (.goto (-24), 3) := by decide +kernel
theorem dX13_remember_71 : decode cX13_remember 71 = .ok (.aload_n 0, 1) := by decide +kernel
theorem dX13_remember_72 : decode cX13_remember 72 = .ok (.dup, 1) := by decide +kernel
theorem dX13_remember_73 : decode cX13_remember 73 = .ok (.getfield 292, 3) := by decide +kernel
theorem dX13_remember_76 : decode cX13_remember 76 = .ok (.iconst 1, 1) := by decide +kernel
theorem dX13_remember_77 : decode cX13_remember 77 = .ok (.isub, 1) := by decide +kernel
theorem dX13_remember_78 : decode cX13_remember 78 = .ok (.putfield 292, 3) := by decide +kernel
theorem dX13_remember_81 : decode cX13_remember 81 = .ok (.iconst 0, 1) := by decide +kernel
theorem dX13_remember_82 : decode cX13_remember 82 = .ok (.istore_n 2, 1) := by decide +kernel
theorem dX13_remember_83 : decode cX13_remember 83 = .ok (.iload_n 2, 1) := by decide +kernel
theorem dX13_remember_84 : decode cX13_remember 84 = .ok (.iload_n 1, 1) := by decide +kernel
theorem dX13_remember_85 : decode cX13_remember 85 = .ok (.if_icmp .ge 28, 3) := by decide +kernel
theorem dX13_remember_88 : decode cX13_remember 88 = .ok (.aload_n 0, 1) := by decide +kernel
theorem dX13_remember_89 : decode cX13_remember 89 = .ok (.getfield 69, 3) := by decide +kernel
theorem dX13_remember_92 : decode cX13_remember 92 = .ok (.iload_n 1, 1) := by decide +kernel
theorem dX13_remember_93 : decode cX13_remember 93 = .ok (.aload_n 0, 1) := by decide +kernel
theorem dX13_remember_94 : decode cX13_remember 94 = .ok (.getfield 292, 3) := by decide +kernel
theorem dX13_remember_97 : decode cX13_remember 97 = .ok (.imul, 1) := by decide +kernel
theorem dX13_remember_98 : decode cX13_remember 98 = .ok (.iload_n 2, 1) := by decide +kernel
theorem dX13_remember_99 : decode cX13_remember 99 = .ok (.iadd, 1) := by decide +kernel
theorem dX13_remember_100 : decode cX13_remember 100 = .ok (.aload_n 0, 1) := by decide +kernel
theorem dX13_remember_101 : decode cX13_remember 101 = .ok (.getfield 56, 3) := by decide +kernel
theorem dX13_remember_104 : decode cX13_remember 104 = .ok (.iload_n 2, 1) := by decide +kernel
theorem dX13_remember_105 : decode cX13_remember 105 = .ok (.baload, 1) := by decide +kernel
theorem dX13_remember_106 : decode cX13_remember 106 = .ok (.bastore, 1) := by decide +kernel
theorem dX13_remember_107 : decode cX13_remember 107 = .ok (.iinc 2 1, 3) := by decide +kernel
theorem dX13_remember_110 : decode cX13_remember 110 = .ok (.goto (-27), 3) := by decide +kernel
theorem dX13_remember_113 : decode cX13_remember 113 = .ok (.iconst 0, 1) := by decide +kernel
theorem dX13_remember_114 : decode cX13_remember 114 = .ok (.istore_n 2, 1) := by decide +kernel
theorem dX13_remember_115 : decode cX13_remember 115 = .ok (.iload_n 2, 1) := by decide +kernel
theorem dX13_remember_116 : decode cX13_remember 116 = .ok (.iconst 4, 1) := by decide +kernel
theorem dX13_remember_117 : decode cX13_remember 117 = .ok (.if_icmp .ge 28, 3) := by decide +kernel
theorem dX13_remember_120 : decode cX13_remember 120 = .ok (.aload_n 0, 1) := by decide +kernel
theorem dX13_remember_121 : decode cX13_remember 121 = .ok (.getfield 72, 3) := by decide +kernel
theorem dX13_remember_124 : decode cX13_remember 124 = .ok (.iconst 4, 1) := by decide +kernel
theorem dX13_remember_125 : decode cX13_remember 125 = .ok (.aload_n 0, 1) := by decide +kernel
theorem dX13_remember_126 : decode cX13_remember 126 = .ok (.getfield 292, 3) := by decide +kernel
theorem dX13_remember_129 : decode cX13_remember 129 = .ok (.imul, 1) := by decide +kernel
theorem dX13_remember_130 : decode cX13_remember 130 = .ok (.iload_n 2, 1) := by decide +kernel
theorem dX13_remember_131 : decode cX13_remember 131 = .ok (.iadd, 1) := by decide +kernel
theorem dX13_remember_132 : decode cX13_remember 132 = .ok (.aload_n 0, 1) := by decide +kernel
theorem dX13_remember_133 : decode cX13_remember 133 = .ok (.getfield 60, 3) := by decide +kernel
theorem dX13_remember_136 : decode cX13_remember 136 = .ok (.iload_n 2, 1) := by decide +kernel
theorem dX13_remember_137 : decode cX13_remember 137 = .ok (.iaload, 1) := by decide +kernel
theorem dX13_remember_138 : decode cX13_remember 138 = .ok (.iastore, 1) := by decide +kernel
theorem dX13_remember_139 : decode cX13_remember 139 = .ok (.iinc 2 1, 3) := by decide +kernel
theorem dX13_remember_142 : decode cX13_remember 142 = .ok (.goto (-27), 3) := by decide +kernel
theorem dX13_remember_145 : decode cX13_remember 145 = .ok (.aload_n 0, 1) := by decide +kernel
theorem dX13_remember_146 : decode cX13_remember 146 = .ok (.dup, 1) := by decide +kernel
theorem dX13_remember_147 : decode cX13_remember 147 = .ok (.getfield 292, 3) := by decide +kernel
theorem dX13_remember_150 : decode cX13_remember 150 = .ok (.iconst 1, 1) := by decide +kernel
theorem dX13_remember_151 : decode cX13_remember 151 = .ok (.iadd, 1) := by decide +kernel
theorem dX13_remember_152 : decode cX13_remember 152 = .ok (.putfield 292, 3) := by decide +kernel
theorem dX13_remember_155 : decode cX13_remember 155 = .ok (.return_, 1) := by decide +kernel
theorem dX13_open_0 : decode cX13_open 0 = .ok (.aload_n 0, 1) := by decide +kernel
theorem dX13_open_1 : decode cX13_open 1 = .ok (.iconst 0, 1) := by decide +kernel
theorem dX13_open_2 : decode cX13_open 2 = .ok (.putfield 102, 3) := by decide +kernel
theorem dX13_open_5 : decode cX13_open 5 = .ok (.aload_n 0, 1) := by decide +kernel
theorem dX13_open_6 : decode cX13_open 6 = .ok (.iload_n 1, 1) := by decide +kernel
theorem dX13_open_7 : decode cX13_open 7 = .ok (.iload_n 2, 1) := by decide +kernel
theorem dX13_open_8 : decode cX13_open 8 = .ok (.invokevirtual 335, 3) := by decide +kernel
theorem dX13_open_11 : decode cX13_open 11 = .ok (.ifCond .eq 30, 3) := by decide +kernel
theorem dX13_open_14 : decode cX13_open 14 = .ok (.aload_n 0, 1) := by decide +kernel
theorem dX13_open_15 : decode cX13_open 15 = .ok (.getfield 56, 3) := by decide +kernel
theorem dX13_open_18 : decode cX13_open 18 = .ok (.iconst 4, 1) := by decide +kernel
theorem dX13_open_19 : decode cX13_open 19 = .ok (.iload_n 1, 1) := by decide +kernel
theorem dX13_open_20 : decode cX13_open 20 = .ok (.imul, 1) := by decide +kernel
theorem dX13_open_21 : decode cX13_open 21 = .ok (.iload_n 2, 1) := by decide +kernel
theorem dX13_open_22 : decode cX13_open 22 = .ok (.iadd, 1) := by decide +kernel
theorem dX13_open_23 : decode cX13_open 23 = .ok (.baload, 1) := by decide +kernel
theorem dX13_open_24 : decode cX13_open 24 = .ok (.iload_n 3, 1) := by decide +kernel
theorem dX13_open_25 : decode cX13_open 25 = .ok (.if_icmp .eq 16, 3) := by decide +kernel
theorem dX13_open_28 : decode cX13_open 28 = .ok (.iload_n 3, 1) := by decide +kernel
theorem dX13_open_29 : decode cX13_open 29 = .ok (.ifCond .ne 14, 3) := by decide +kernel
theorem dX13_open_32 : decode cX13_open 32 = .ok (.aload_n 0, 1) := by decide +kernel
theorem dX13_open_33 : decode cX13_open 33 = .ok (.iload_n 1, 1) := by decide +kernel
theorem dX13_open_34 : decode cX13_open 34 = .ok (.invokevirtual 329, 3) := by decide +kernel
theorem dX13_open_37 : decode cX13_open 37 = .ok (.iconst 1, 1) := by decide +kernel
theorem dX13_open_38 : decode cX13_open 38 = .ok (.if_icmp .ne 5, 3) := by decide +kernel
theorem dX13_open_41 : decode cX13_open 41 = .ok (.iconst (-1), 1) := by decide +kernel
theorem dX13_open_42 : decode cX13_open 42 = .ok (.ireturn, 1) := by decide +kernel
theorem dX13_open_43 : decode cX13_open 43 = .ok (.aload_n 0, 1) := by decide +kernel
theorem dX13_open_44 : decode cX13_open 44 = .ok (.invokevirtual 343, 3) := by decide +kernel
theorem dX13_open_47 : decode cX13_open 47 = .ok (.aload_n 0, 1) := by decide +kernel
theorem dX13_open_48 : decode cX13_open 48 = .ok (.getfield 56, 3) := by decide +kernel
theorem dX13_open_51 : decode cX13_open 51 = .ok (.iconst 4, 1) := by decide +kernel
theorem dX13_open_52 : decode cX13_open 52 = .ok (.iload_n 1, 1) := by decide +kernel
theorem dX13_open_53 : decode cX13_open 53 = .ok (.imul, 1) := by decide +kernel
theorem dX13_open_54 : decode cX13_open 54 = .ok (.iload_n 2, 1) := by decide +kernel
theorem dX13_open_55 : decode cX13_open 55 = .ok (.iadd, 1) := by decide +kernel
theorem dX13_open_56 : decode cX13_open 56 = .ok (.iload_n 3, 1) := by decide +kernel
theorem dX13_open_57 : decode cX13_open 57 = .ok (.bastore, 1) := by decide +kernel
theorem dX13_open_58 : decode cX13_open 58 = .ok (.aload_n 0, 1) := by decide +kernel
theorem dX13_open_59 : decode cX13_open 59 = .ok (.getfield 292, 3) := by decide +kernel
theorem dX13_open_62 : decode cX13_open 62 = .ok (.ireturn, 1) := by decide +kernel
theorem dX13_set_0 : decode cX13_set 0 = .ok (.aload_n 0, 1) := by decide +kernel
theorem dX13_set_1 : decode cX13_set 1 = .ok (.iconst 0, 1) := by decide +kernel
theorem dX13_set_2 : decode cX13_set 2 = .ok (.putfield 102, 3) := by decide +kernel
theorem dX13_set_5 : decode cX13_set 5 = .ok (.aload_n 0, 1) := by decide +kernel
theorem dX13_set_6 : decode cX13_set 6 = .ok (.getfield 52, 3) := by decide +kernel
theorem dX13_set_9 : decode cX13_set 9 = .ok (.iconst (-1), 1) := by decide +kernel
theorem dX13_set_10 : decode cX13_set 10 = .ok (.if_icmp .eq 15, 3) := by decide +kernel
theorem dX13_set_13 : decode cX13_set 13 = .ok (.iload_n 1, 1) := by decide +kernel
theorem dX13_set_14 : decode cX13_set 14 = .ok (.i2l, 1) := by decide +kernel
theorem dX13_set_15 : decode cX13_set 15 = .ok (.lconst 0, 1) := by decide +kernel
theorem dX13_set_16 : decode cX13_set 16 = .ok (.ldc2_w 346, 3) := by decide +kernel
theorem dX13_set_19 : decode cX13_set 19 = .ok (.invokestatic 231, 3) := by decide +kernel
theorem dX13_set_22 : decode cX13_set 22 = .ok (.ifCond .ne 5, 3) := by decide +kernel
theorem dX13_set_25 : decode cX13_set 25 = .ok (.iconst (-1), 1) := by decide +kernel
theorem dX13_set_26 : decode cX13_set 26 = .ok (.ireturn, 1) := by decide +kernel
theorem dX13_set_27 : decode cX13_set 27 = .ok (.iload_n 1, 1) := by decide +kernel
theorem dX13_set_28 : decode cX13_set 28 = .ok (.iconst 1, 1) := by decide +kernel
theorem dX13_set_29 : decode cX13_set 29 = .ok (.if_icmp .eq 8, 3) := by decide +kernel
theorem dX13_set_32 : decode cX13_set 32 = .ok (.iload_n 1, 1) := by decide +kernel
theorem dX13_set_33 : decode cX13_set 33 = .ok (.iconst 2, 1) := by decide +kernel
theorem dX13_set_34 : decode cX13_set 34 = .ok (.if_icmp .ne 7, 3) := by decide +kernel
theorem dX13_set_37 : decode cX13_set 37 = .ok (.iconst 1, 1) := by decide +kernel
theorem dX13_set_38 : decode cX13_set 38 = .ok (.goto 4, 3) := by decide +kernel
theorem dX13_set_41 : decode cX13_set 41 = .ok (.iconst 0, 1) := by decide +kernel
theorem dX13_set_42 : decode cX13_set 42 = .ok (.istore_n 3, 1) := by decide +kernel
theorem dX13_set_43 : decode cX13_set 43 = .ok (.iload_n 2, 1) := by decide +kernel
theorem dX13_set_44 : decode cX13_set 44 = .ok (.i2l, 1) := by decide +kernel
theorem dX13_set_45 : decode cX13_set 45 = .ok (.iload_n 3, 1) := by decide +kernel
theorem dX13_set_46 : decode cX13_set 46 = .ok (.ifCond .eq 9, 3) := by decide +kernel
theorem dX13_set_49 : decode cX13_set 49 = .ok (.ldc2_w 348, 3) := by decide +kernel
theorem dX13_set_52 : decode cX13_set 52 = .ok (.goto 4, 3) := by decide +kernel
theorem dX13_set_55 : decode cX13_set 55 = .ok (.lconst 0, 1) := by decide +kernel
theorem dX13_set_56 : decode cX13_set 56 = .ok (.iload_n 3, 1) := by decide +kernel
theorem dX13_set_57 : decode cX13_set 57 = .ok (.ifCond .eq 13, 3) := by decide +kernel
theorem dX13_set_60 : decode cX13_set 60 = .ok (.aload_n 0, 1) := by decide +kernel
theorem dX13_set_61 : decode cX13_set 61 = .ok (.getfield 284, 3) := by decide +kernel
theorem dX13_set_64 : decode cX13_set 64 = .ok (.iconst 1, 1) := by decide +kernel
theorem dX13_set_65 : decode cX13_set 65 = .ok (.isub, 1) := by decide +kernel
theorem dX13_set_66 : decode cX13_set 66 = .ok (.i2l, 1) := by decide +kernel
theorem dX13_set_67 : decode cX13_set 67 = .ok (.goto 6, 3) := by decide +kernel
theorem dX13_set_70 : decode cX13_set 70 = .ok (.ldc2_w 346, 3) := by decide +kernel
theorem dX13_set_73 : decode cX13_set 73 = .ok (.invokestatic 231, 3) := by decide +kernel
theorem dX13_set_76 : decode cX13_set 76 = .ok (.ifCond .eq 13, 3) := by decide +kernel
theorem dX13_set_79 : decode cX13_set 79 = .ok (.aload_n 0, 1) := by decide +kernel
theorem dX13_set_80 : decode cX13_set 80 = .ok (.getfield 60, 3) := by decide +kernel
theorem dX13_set_83 : decode cX13_set 83 = .ok (.iload_n 1, 1) := by decide +kernel
theorem dX13_set_84 : decode cX13_set 84 = .ok (.iaload, 1) := by decide +kernel
theorem dX13_set_85 : decode cX13_set 85 = .ok (.iload_n 2, 1) := by decide +kernel
theorem dX13_set_86 : decode cX13_set 86 = .ok (.if_icmp .ne 5, 3) := by decide +kernel
theorem dX13_set_89 : decode cX13_set 89 = .ok (.iconst (-1), 1) := by decide +kernel
theorem dX13_set_90 : decode cX13_set 90 = .ok (.ireturn, 1) := by decide +kernel
theorem dX13_set_91 : decode cX13_set 91 = .ok (.aload_n 0, 1) := by decide +kernel
theorem dX13_set_92 : decode cX13_set 92 = .ok (.invokevirtual 343, 3) := by decide +kernel
theorem dX13_set_95 : decode cX13_set 95 = .ok (.aload_n 0, 1) := by decide +kernel
theorem dX13_set_96 : decode cX13_set 96 = .ok (.getfield 60, 3) := by decide +kernel
theorem dX13_set_99 : decode cX13_set 99 = .ok (.iload_n 1, 1) := by decide +kernel
theorem dX13_set_100 : decode cX13_set 100 = .ok (.iload_n 2, 1) := by decide +kernel
theorem dX13_set_101 : decode cX13_set 101 = .ok (.iastore, 1) := by decide +kernel
theorem dX13_set_102 : decode cX13_set 102 = .ok (.aload_n 0, 1) := by decide +kernel
theorem dX13_set_103 : decode cX13_set 103 = .ok (.getfield 292, 3) := by decide +kernel
theorem dX13_set_106 : decode cX13_set 106 = .ok (.ireturn, 1) := by decide +kernel
theorem dX13_undo_0 : decode cX13_undo 0 = .ok (.aload_n 0, 1) := by decide +kernel
theorem dX13_undo_1 : decode cX13_undo 1 = .ok (.iconst 0, 1) := by decide +kernel
theorem dX13_undo_2 : decode cX13_undo 2 = .ok (.putfield 102, 3) := by decide +kernel
theorem dX13_undo_5 : decode cX13_undo 5 = .ok (.aload_n 0, 1) := by decide +kernel
theorem dX13_undo_6 : decode cX13_undo 6 = .ok (.getfield 292, 3) := by decide +kernel
theorem dX13_undo_9 : decode cX13_undo 9 = .ok (.ifCond .ne 5, 3) := by decide +kernel
theorem dX13_undo_12 : decode cX13_undo 12 = .ok (.iconst (-1), 1) := by decide +kernel
theorem dX13_undo_13 : decode cX13_undo 13 = .ok (.ireturn, 1) := by decide +kernel
theorem dX13_undo_14 : decode cX13_undo 14 = .ok (.aload_n 0, 1) := by decide +kernel
theorem dX13_undo_15 : decode cX13_undo 15 = .ok (.dup, 1) := by decide +kernel
theorem dX13_undo_16 : decode cX13_undo 16 = .ok (.getfield 292, 3) := by decide +kernel
theorem dX13_undo_19 : decode cX13_undo 19 = .ok (.iconst 1, 1) := by decide +kernel
theorem dX13_undo_20 : decode cX13_undo 20 = .ok (.isub, 1) := by decide +kernel
theorem dX13_undo_21 : decode cX13_undo 21 = .ok (.putfield 292, 3) := by decide +kernel
theorem dX13_undo_24 : decode cX13_undo 24 = .ok (.iconst 0, 1) := by decide +kernel
theorem dX13_undo_25 : decode cX13_undo 25 = .ok (.istore_n 1, 1) := by decide +kernel
theorem dX13_undo_26 : decode cX13_undo 26 = .ok (.iload_n 1, 1) := by decide +kernel
theorem dX13_undo_27 : decode cX13_undo 27 = .ok (.bipush 72, 2) := by decide +kernel
theorem dX13_undo_29 : decode cX13_undo 29 = .ok (.if_icmp .ge 29, 3) := by decide +kernel
theorem dX13_undo_32 : decode cX13_undo 32 = .ok (.aload_n 0, 1) := by decide +kernel
theorem dX13_undo_33 : decode cX13_undo 33 = .ok (.getfield 56, 3) := by decide +kernel
theorem dX13_undo_36 : decode cX13_undo 36 = .ok (.iload_n 1, 1) := by decide +kernel
theorem dX13_undo_37 : decode cX13_undo 37 = .ok (.aload_n 0, 1) := by decide +kernel
theorem dX13_undo_38 : decode cX13_undo 38 = .ok (.getfield 69, 3) := by decide +kernel
theorem dX13_undo_41 : decode cX13_undo 41 = .ok (.bipush 72, 2) := by decide +kernel
theorem dX13_undo_43 : decode cX13_undo 43 = .ok (.aload_n 0, 1) := by decide +kernel
theorem dX13_undo_44 : decode cX13_undo 44 = .ok (.getfield 292, 3) := by decide +kernel
theorem dX13_undo_47 : decode cX13_undo 47 = .ok (.imul, 1) := by decide +kernel
theorem dX13_undo_48 : decode cX13_undo 48 = .ok (.iload_n 1, 1) := by decide +kernel
theorem dX13_undo_49 : decode cX13_undo 49 = .ok (.iadd, 1) := by decide +kernel
theorem dX13_undo_50 : decode cX13_undo 50 = .ok (.baload, 1) := by decide +kernel
theorem dX13_undo_51 : decode cX13_undo 51 = .ok (.bastore, 1) := by decide +kernel
theorem dX13_undo_52 : decode cX13_undo 52 = .ok (.iinc 1 1, 3) := by decide +kernel
theorem dX13_undo_55 : decode cX13_undo 55 = .ok (.goto (-29), 3) := by decide +kernel
theorem dX13_undo_58 : decode cX13_undo 58 = .ok (.iconst 0, 1) := by decide +kernel
theorem dX13_undo_59 : decode cX13_undo 59 = .ok (.istore_n 1, 1) := by decide +kernel
theorem dX13_undo_60 : decode cX13_undo 60 = .ok (.iload_n 1, 1) := by decide +kernel
theorem dX13_undo_61 : decode cX13_undo 61 = .ok (.iconst 4, 1) := by decide +kernel
theorem dX13_undo_62 : decode cX13_undo 62 = .ok (.if_icmp .ge 28, 3) := by decide +kernel
theorem dX13_undo_65 : decode cX13_undo 65 = .ok (.aload_n 0, 1) := by decide +kernel
theorem dX13_undo_66 : decode cX13_undo 66 = .ok (.getfield 60, 3) := by decide +kernel
theorem dX13_undo_69 : decode cX13_undo 69 = .ok (.iload_n 1, 1) := by decide +kernel
theorem dX13_undo_70 : decode cX13_undo 70 = .ok (.aload_n 0, 1) := by decide +kernel
theorem dX13_undo_71 : decode cX13_undo 71 = .ok (.getfield 72, 3) := by decide +kernel
theorem dX13_undo_74 : decode cX13_undo 74 = .ok (.iconst 4, 1) := by decide +kernel
theorem dX13_undo_75 : decode cX13_undo 75 = .ok (.aload_n 0, 1) := by decide +kernel
theorem dX13_undo_76 : decode cX13_undo 76 = .ok (.getfield 292, 3) := by decide +kernel
theorem dX13_undo_79 : decode cX13_undo 79 = .ok (.imul, 1) := by decide +kernel
theorem dX13_undo_80 : decode cX13_undo 80 = .ok (.iload_n 1, 1) := by decide +kernel
theorem dX13_undo_81 : decode cX13_undo 81 = .ok (.iadd, 1) := by decide +kernel
theorem dX13_undo_82 : decode cX13_undo 82 = .ok (.iaload, 1) := by decide +kernel
theorem dX13_undo_83 : decode cX13_undo 83 = .ok (.iastore, 1) := by decide +kernel
theorem dX13_undo_84 : decode cX13_undo 84 = .ok (.iinc 1 1, 3) := by decide +kernel
theorem dX13_undo_87 : decode cX13_undo 87 = .ok (.goto (-27), 3) := by decide +kernel
theorem dX13_undo_90 : decode cX13_undo 90 = .ok (.aload_n 0, 1) := by decide +kernel
theorem dX13_undo_91 : decode cX13_undo 91 = .ok (.getfield 292, 3) := by decide +kernel
theorem dX13_undo_94 : decode cX13_undo 94 = .ok (.ireturn, 1) := by decide +kernel
theorem dX13_worthBy_0 : decode cX13_worthBy 0 = .ok (.aload_n 0, 1) := by decide +kernel
theorem dX13_worthBy_1 : decode cX13_worthBy 1 = .ok (.aload_n 0, 1) := by decide +kernel
theorem dX13_worthBy_2 : decode cX13_worthBy 2 = .ok (.getfield 13, 3) := by decide +kernel
theorem dX13_worthBy_5 : decode cX13_worthBy 5 = .ok (.sipush 240, 3) := by decide +kernel
theorem dX13_worthBy_8 : decode cX13_worthBy 8 = .ok (.iload_n 1, 1) := by decide +kernel
theorem dX13_worthBy_9 : decode cX13_worthBy 9 = .ok (.imul, 1) := by decide +kernel
theorem dX13_worthBy_10 : decode cX13_worthBy 10 = .ok (.aload_n 0, 1) := by decide +kernel
theorem dX13_worthBy_11 : decode cX13_worthBy 11 = .ok (.getfield 16, 3) := by decide +kernel
theorem dX13_worthBy_14 : decode cX13_worthBy 14 = .ok (.iload_n 1, 1) := by decide +kernel
theorem dX13_worthBy_15 : decode cX13_worthBy 15 = .ok (.iaload, 1) := by decide +kernel
theorem dX13_worthBy_16 : decode cX13_worthBy 16 = .ok (.invokevirtual 278, 3) := by decide +kernel
theorem dX13_worthBy_19 : decode cX13_worthBy 19 = .ok (.aload_n 0, 1) := by decide +kernel
theorem dX13_worthBy_20 : decode cX13_worthBy 20 = .ok (.getfield 210, 3) := by decide +kernel
theorem dX13_worthBy_23 : decode cX13_worthBy 23 = .ok (.ireturn, 1) := by decide +kernel
theorem dX13_ruleOf_0 : decode cX13_ruleOf 0 = .ok (.aload_n 0, 1) := by decide +kernel
theorem dX13_ruleOf_1 : decode cX13_ruleOf 1 = .ok (.aload_n 0, 1) := by decide +kernel
theorem dX13_ruleOf_2 : decode cX13_ruleOf 2 = .ok (.getfield 52, 3) := by decide +kernel
theorem dX13_ruleOf_5 : decode cX13_ruleOf 5 = .ok (.iload_n 1, 1) := by decide +kernel
theorem dX13_ruleOf_6 : decode cX13_ruleOf 6 = .ok (.iload_n 2, 1) := by decide +kernel
theorem dX13_ruleOf_7 : decode cX13_ruleOf 7 = .ok (.invokevirtual 262, 3) := by decide +kernel
theorem dX13_ruleOf_10 : decode cX13_ruleOf 10 = .ok (.istore_n 3, 1) := by decide +kernel
theorem dX13_ruleOf_11 : decode cX13_ruleOf 11 = .ok (.aload_n 0, 1) := by decide +kernel
theorem dX13_ruleOf_12 : decode cX13_ruleOf 12 = .ok (.getfield 20, 3) := by decide +kernel
theorem dX13_ruleOf_15 : decode cX13_ruleOf 15 = .ok (.bipush 103, 2) := by decide +kernel
theorem dX13_ruleOf_17 : decode cX13_ruleOf 17 = .ok (.aload_n 0, 1) := by decide +kernel
theorem dX13_ruleOf_18 : decode cX13_ruleOf 18 = .ok (.getfield 43, 3) := by decide +kernel
theorem dX13_ruleOf_21 : decode cX13_ruleOf 21 = .ok (.iload_n 3, 1) := by decide +kernel
theorem dX13_ruleOf_22 : decode cX13_ruleOf 22 = .ok (.iconst 1, 1) := by decide +kernel
theorem dX13_ruleOf_23 : decode cX13_ruleOf 23 = .ok (.iadd, 1) := by decide +kernel
theorem dX13_ruleOf_24 : decode cX13_ruleOf 24 = .ok (.iaload, 1) := by decide +kernel
theorem dX13_ruleOf_25 : decode cX13_ruleOf 25 = .ok (.iastore, 1) := by decide +kernel
theorem dX13_ruleOf_26 : decode cX13_ruleOf 26 = .ok (.aload_n 0, 1) := by decide +kernel
theorem dX13_ruleOf_27 : decode cX13_ruleOf 27 = .ok (.getfield 20, 3) := by decide +kernel
theorem dX13_ruleOf_30 : decode cX13_ruleOf 30 = .ok (.bipush 106, 2) := by decide +kernel
theorem dX13_ruleOf_32 : decode cX13_ruleOf 32 = .ok (.aload_n 0, 1) := by decide +kernel
theorem dX13_ruleOf_33 : decode cX13_ruleOf 33 = .ok (.getfield 43, 3) := by decide +kernel
theorem dX13_ruleOf_36 : decode cX13_ruleOf 36 = .ok (.iload_n 3, 1) := by decide +kernel
theorem dX13_ruleOf_37 : decode cX13_ruleOf 37 = .ok (.iconst 2, 1) := by decide +kernel
theorem dX13_ruleOf_38 : decode cX13_ruleOf 38 = .ok (.iadd, 1) := by decide +kernel
theorem dX13_ruleOf_39 : decode cX13_ruleOf 39 = .ok (.iaload, 1) := by decide +kernel
theorem dX13_ruleOf_40 : decode cX13_ruleOf 40 = .ok (.iastore, 1) := by decide +kernel
theorem dX13_ruleOf_41 : decode cX13_ruleOf 41 = .ok (.aload_n 0, 1) := by decide +kernel
theorem dX13_ruleOf_42 : decode cX13_ruleOf 42 = .ok (.getfield 20, 3) := by decide +kernel
theorem dX13_ruleOf_45 : decode cX13_ruleOf 45 = .ok (.bipush 111, 2) := by decide +kernel
theorem dX13_ruleOf_47 : decode cX13_ruleOf 47 = .ok (.aload_n 0, 1) := by decide +kernel
theorem dX13_ruleOf_48 : decode cX13_ruleOf 48 = .ok (.getfield 43, 3) := by decide +kernel
theorem dX13_ruleOf_51 : decode cX13_ruleOf 51 = .ok (.iload_n 3, 1) := by decide +kernel
theorem dX13_ruleOf_52 : decode cX13_ruleOf 52 = .ok (.iconst 3, 1) := by decide +kernel
theorem dX13_ruleOf_53 : decode cX13_ruleOf 53 = .ok (.iadd, 1) := by decide +kernel
theorem dX13_ruleOf_54 : decode cX13_ruleOf 54 = .ok (.iaload, 1) := by decide +kernel
theorem dX13_ruleOf_55 : decode cX13_ruleOf 55 = .ok (.iastore, 1) := by decide +kernel
theorem dX13_ruleOf_56 : decode cX13_ruleOf 56 = .ok (.aload_n 0, 1) := by decide +kernel
theorem dX13_ruleOf_57 : decode cX13_ruleOf 57 = .ok (.getfield 20, 3) := by decide +kernel
theorem dX13_ruleOf_60 : decode cX13_ruleOf 60 = .ok (.bipush 121, 2) := by decide +kernel
theorem dX13_ruleOf_62 : decode cX13_ruleOf 62 = .ok (.aload_n 0, 1) := by decide +kernel
theorem dX13_ruleOf_63 : decode cX13_ruleOf 63 = .ok (.getfield 40, 3) := by decide +kernel
theorem dX13_ruleOf_66 : decode cX13_ruleOf 66 = .ok (.aload_n 0, 1) := by decide +kernel
theorem dX13_ruleOf_67 : decode cX13_ruleOf 67 = .ok (.aload_n 0, 1) := by decide +kernel
theorem dX13_ruleOf_68 : decode cX13_ruleOf 68 = .ok (.getfield 52, 3) := by decide +kernel
theorem dX13_ruleOf_71 : decode cX13_ruleOf 71 = .ok (.iload_n 1, 1) := by decide +kernel
theorem dX13_ruleOf_72 : decode cX13_ruleOf 72 = .ok (.invokevirtual 249, 3) := by decide +kernel
theorem dX13_ruleOf_75 : decode cX13_ruleOf 75 = .ok (.iaload, 1) := by decide +kernel
theorem dX13_ruleOf_76 : decode cX13_ruleOf 76 = .ok (.iastore, 1) := by decide +kernel
theorem dX13_ruleOf_77 : decode cX13_ruleOf 77 = .ok (.aload_n 0, 1) := by decide +kernel
theorem dX13_ruleOf_78 : decode cX13_ruleOf 78 = .ok (.getfield 20, 3) := by decide +kernel
theorem dX13_ruleOf_81 : decode cX13_ruleOf 81 = .ok (.bipush 100, 2) := by decide +kernel
theorem dX13_ruleOf_83 : decode cX13_ruleOf 83 = .ok (.iconst 0, 1) := by decide +kernel
theorem dX13_ruleOf_84 : decode cX13_ruleOf 84 = .ok (.iastore, 1) := by decide +kernel
theorem dX13_ruleOf_85 : decode cX13_ruleOf 85 = .ok (.aload_n 0, 1) := by decide +kernel
theorem dX13_ruleOf_86 : decode cX13_ruleOf 86 = .ok (.getfield 20, 3) := by decide +kernel
theorem dX13_ruleOf_89 : decode cX13_ruleOf 89 = .ok (.bipush 116, 2) := by decide +kernel
theorem dX13_ruleOf_91 : decode cX13_ruleOf 91 = .ok (.aload_n 0, 1) := by decide +kernel
theorem dX13_ruleOf_92 : decode cX13_ruleOf 92 = .ok (.iload_n 1, 1) := by decide +kernel
theorem dX13_ruleOf_93 : decode cX13_ruleOf 93 = .ok (.invokevirtual 329, 3) := by decide +kernel
theorem dX13_ruleOf_96 : decode cX13_ruleOf 96 = .ok (.iastore, 1) := by decide +kernel
theorem dX13_ruleOf_97 : decode cX13_ruleOf 97 = .ok (.aload_n 0, 1) := by decide +kernel
theorem dX13_ruleOf_98 : decode cX13_ruleOf 98 = .ok (.getfield 20, 3) := by decide +kernel
theorem dX13_ruleOf_101 : decode cX13_ruleOf 101 = .ok (.bipush 98, 2) := by decide +kernel
theorem dX13_ruleOf_103 : decode cX13_ruleOf 103 = .ok (.iload_n 2, 1) := by decide +kernel
theorem dX13_ruleOf_104 : decode cX13_ruleOf 104 = .ok (.iastore, 1) := by decide +kernel
theorem dX13_ruleOf_105 : decode cX13_ruleOf 105 = .ok (.aload_n 0, 1) := by decide +kernel
theorem dX13_ruleOf_106 : decode cX13_ruleOf 106 = .ok (.getfield 20, 3) := by decide +kernel
theorem dX13_ruleOf_109 : decode cX13_ruleOf 109 = .ok (.bipush 119, 2) := by decide +kernel
