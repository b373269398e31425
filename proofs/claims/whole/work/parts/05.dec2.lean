theorem dX12_init_0 : decode cX12_init 0 = .ok (.aload_n 0, 1) := by decide +kernel
theorem dX12_init_1 : decode cX12_init 1 = .ok (.invokespecial 1, 3) := by decide +kernel
theorem dX12_init_4 : decode cX12_init 4 = .ok (.aload_n 0, 1) := by decide +kernel
theorem dX12_init_5 : decode cX12_init 5 = .ok (.new 7, 3) := by decide +kernel
theorem dX12_init_8 : decode cX12_init 8 = .ok (.dup, 1) := by decide +kernel
theorem dX12_init_9 : decode cX12_init 9 = .ok (.invokespecial 9, 3) := by decide +kernel
theorem dX12_init_12 : decode cX12_init 12 = .ok (.putfield 10, 3) := by decide +kernel
theorem dX12_init_15 : decode cX12_init 15 = .ok (.aload_n 0, 1) := by decide +kernel
theorem dX12_init_16 : decode cX12_init 16 = .ok (.iconst 4, 1) := by decide +kernel
theorem dX12_init_17 : decode cX12_init 17 = .ok (.anewarray 16, 3) := by decide +kernel
theorem dX12_init_20 : decode cX12_init 20 = .ok (.putfield 18, 3) := by decide +kernel
theorem dX12_init_23 : decode cX12_init 23 = .ok (.iconst 0, 1) := by decide +kernel
theorem dX12_init_24 : decode cX12_init 24 = .ok (.istore_n 1, 1) := by decide +kernel
theorem dX12_init_25 : decode cX12_init 25 = .ok (.iload_n 1, 1) := by decide +kernel
theorem dX12_init_26 : decode cX12_init 26 = .ok (.aload_n 0, 1) := by decide +kernel
theorem dX12_init_27 : decode cX12_init 27 = .ok (.getfield 18, 3) := by decide +kernel
theorem dX12_init_30 : decode cX12_init 30 = .ok (.arraylength, 1) := by decide +kernel
theorem dX12_init_31 : decode cX12_init 31 = .ok (.if_icmp .ge 22, 3) := by decide +kernel
theorem dX12_init_34 : decode cX12_init 34 = .ok (.aload_n 0, 1) := by decide +kernel
theorem dX12_init_35 : decode cX12_init 35 = .ok (.getfield 18, 3) := by decide +kernel
theorem dX12_init_38 : decode cX12_init 38 = .ok (.iload_n 1, 1) := by decide +kernel
theorem dX12_init_39 : decode cX12_init 39 = .ok (.new 16, 3) := by decide +kernel
theorem dX12_init_42 : decode cX12_init 42 = .ok (.dup, 1) := by decide +kernel
theorem dX12_init_43 : decode cX12_init 43 = .ok (.invokespecial 22, 3) := by decide +kernel
theorem dX12_init_46 : decode cX12_init 46 = .ok (.aastore, 1) := by decide +kernel
theorem dX12_init_47 : decode cX12_init 47 = .ok (.iinc 1 1, 3) := by decide +kernel
theorem dX12_init_50 : decode cX12_init 50 = .ok (.goto (-25), 3) := by decide +kernel
theorem dX12_init_53 : decode cX12_init 53 = .ok (.aload_n 0, 1) := by decide +kernel
theorem dX12_init_54 : decode cX12_init 54 = .ok (.bipush 7, 2) := by decide +kernel
theorem dX12_init_56 : decode cX12_init 56 = .ok (.anewarray 23, 3) := by decide +kernel
theorem dX12_init_59 : decode cX12_init 59 = .ok (.putfield 25, 3) := by decide +kernel
theorem dX12_init_62 : decode cX12_init 62 = .ok (.iconst 0, 1) := by decide +kernel
theorem dX12_init_63 : decode cX12_init 63 = .ok (.istore_n 1, 1) := by decide +kernel
theorem dX12_init_64 : decode cX12_init 64 = .ok (.iload_n 1, 1) := by decide +kernel
theorem dX12_init_65 : decode cX12_init 65 = .ok (.aload_n 0, 1) := by decide +kernel
theorem dX12_init_66 : decode cX12_init 66 = .ok (.getfield 25, 3) := by decide +kernel
theorem dX12_init_69 : decode cX12_init 69 = .ok (.arraylength, 1) := by decide +kernel
theorem dX12_init_70 : decode cX12_init 70 = .ok (.if_icmp .ge 22, 3) := by decide +kernel
theorem dX12_init_73 : decode cX12_init 73 = .ok (.aload_n 0, 1) := by decide +kernel
theorem dX12_init_74 : decode cX12_init 74 = .ok (.getfield 25, 3) := by decide +kernel
theorem dX12_init_77 : decode cX12_init 77 = .ok (.iload_n 1, 1) := by decide +kernel
theorem dX12_init_78 : decode cX12_init 78 = .ok (.new 23, 3) := by decide +kernel
theorem dX12_init_81 : decode cX12_init 81 = .ok (.dup, 1) := by decide +kernel
theorem dX12_init_82 : decode cX12_init 82 = .ok (.invokespecial 29, 3) := by decide +kernel
theorem dX12_init_85 : decode cX12_init 85 = .ok (.aastore, 1) := by decide +kernel
theorem dX12_init_86 : decode cX12_init 86 = .ok (.iinc 1 1, 3) := by decide +kernel
theorem dX12_init_89 : decode cX12_init 89 = .ok (.goto (-25), 3) := by decide +kernel
theorem dX12_init_92 : decode cX12_init 92 = .ok (.aload_n 0, 1) := by decide +kernel
theorem dX12_init_93 : decode cX12_init 93 = .ok (.new 30, 3) := by decide +kernel
theorem dX12_init_96 : decode cX12_init 96 = .ok (.dup, 1) := by decide +kernel
theorem dX12_init_97 : decode cX12_init 97 = .ok (.aload_n 0, 1) := by decide +kernel
theorem dX12_init_98 : decode cX12_init 98 = .ok (.getfield 10, 3) := by decide +kernel
theorem dX12_init_101 : decode cX12_init 101 = .ok (.invokespecial 32, 3) := by decide +kernel
theorem dX12_init_104 : decode cX12_init 104 = .ok (.putfield 35, 3) := by decide +kernel
theorem dX12_init_107 : decode cX12_init 107 = .ok (.aload_n 0, 1) := by decide +kernel
theorem dX12_init_108 : decode cX12_init 108 = .ok (.new 39, 3) := by decide +kernel
theorem dX12_init_111 : decode cX12_init 111 = .ok (.dup, 1) := by decide +kernel
theorem dX12_init_112 : decode cX12_init 112 = .ok (.aload_n 0, 1) := by decide +kernel
theorem dX12_init_113 : decode cX12_init 113 = .ok (.getfield 10, 3) := by decide +kernel
theorem dX12_init_116 : decode cX12_init 116 = .ok (.invokespecial 41, 3) := by decide +kernel
theorem dX12_init_119 : decode cX12_init 119 = .ok (.putfield 42, 3) := by decide +kernel
theorem dX12_init_122 : decode cX12_init 122 = .ok (.aload_n 0, 1) := by decide +kernel
theorem dX12_init_123 : decode cX12_init 123 = .ok (.new 46, 3) := by decide +kernel
theorem dX12_init_126 : decode cX12_init 126 = .ok (.dup, 1) := by decide +kernel
theorem dX12_init_127 : decode cX12_init 127 = .ok (.aload_n 0, 1) := by decide +kernel
theorem dX12_init_128 : decode cX12_init 128 = .ok (.getfield 25, 3) := by decide +kernel
theorem dX12_init_131 : decode cX12_init 131 = .ok (.invokespecial 48, 3) := by decide +kernel
theorem dX12_init_134 : decode cX12_init 134 = .ok (.putfield 51, 3) := by decide +kernel
theorem dX12_init_137 : decode cX12_init 137 = .ok (.aload_n 0, 1) := by decide +kernel
theorem dX12_init_138 : decode cX12_init 138 = .ok (.new 55, 3) := by decide +kernel
theorem dX12_init_141 : decode cX12_init 141 = .ok (.dup, 1) := by decide +kernel
theorem dX12_init_142 : decode cX12_init 142 = .ok (.aload_n 0, 1) := by decide +kernel
theorem dX12_init_143 : decode cX12_init 143 = .ok (.getfield 51, 3) := by decide +kernel
theorem dX12_init_146 : decode cX12_init 146 = .ok (.invokespecial 57, 3) := by decide +kernel
theorem dX12_init_149 : decode cX12_init 149 = .ok (.putfield 60, 3) := by decide +kernel
theorem dX12_init_152 : decode cX12_init 152 = .ok (.aload_n 0, 1) := by decide +kernel
theorem dX12_init_153 : decode cX12_init 153 = .ok (.new 64, 3) := by decide +kernel
theorem dX12_init_156 : decode cX12_init 156 = .ok (.dup, 1) := by decide +kernel
theorem dX12_init_157 : decode cX12_init 157 = .ok (.aload_n 0, 1) := by decide +kernel
theorem dX12_init_158 : decode cX12_init 158 = .ok (.getfield 51, 3) := by decide +kernel
theorem dX12_init_161 : decode cX12_init 161 = .ok (.aload_n 0, 1) := by decide +kernel
theorem dX12_init_162 : decode cX12_init 162 = .ok (.getfield 60, 3) := by decide +kernel
theorem dX12_init_165 : decode cX12_init 165 = .ok (.invokespecial 66, 3) := by decide +kernel
theorem dX12_init_168 : decode cX12_init 168 = .ok (.putfield 69, 3) := by decide +kernel
theorem dX12_init_171 : decode cX12_init 171 = .ok (.aload_n 0, 1) := by decide +kernel
theorem dX12_init_172 : decode cX12_init 172 = .ok (.new 73, 3) := by decide +kernel
theorem dX12_init_175 : decode cX12_init 175 = .ok (.dup, 1) := by decide +kernel
theorem dX12_init_176 : decode cX12_init 176 = .ok (.aload_n 0, 1) := by decide +kernel
theorem dX12_init_177 : decode cX12_init 177 = .ok (.getfield 51, 3) := by decide +kernel
theorem dX12_init_180 : decode cX12_init 180 = .ok (.invokespecial 75, 3) := by decide +kernel
theorem dX12_init_183 : decode cX12_init 183 = .ok (.putfield 76, 3) := by decide +kernel
theorem dX12_init_186 : decode cX12_init 186 = .ok (.aload_n 0, 1) := by decide +kernel
theorem dX12_init_187 : decode cX12_init 187 = .ok (.new 80, 3) := by decide +kernel
theorem dX12_init_190 : decode cX12_init 190 = .ok (.dup, 1) := by decide +kernel
theorem dX12_init_191 : decode cX12_init 191 = .ok (.aload_n 0, 1) := by decide +kernel
theorem dX12_init_192 : decode cX12_init 192 = .ok (.getfield 51, 3) := by decide +kernel
theorem dX12_init_195 : decode cX12_init 195 = .ok (.invokespecial 82, 3) := by decide +kernel
theorem dX12_init_198 : decode cX12_init 198 = .ok (.putfield 83, 3) := by decide +kernel
theorem dX12_init_201 : decode cX12_init 201 = .ok (.aload_n 0, 1) := by decide +kernel
theorem dX12_init_202 : decode cX12_init 202 = .ok (.iconst (-1), 1) := by decide +kernel
theorem dX12_init_203 : decode cX12_init 203 = .ok (.putfield 87, 3) := by decide +kernel
theorem dX12_init_206 : decode cX12_init 206 = .ok (.return_, 1) := by decide +kernel
theorem dX12_feed_0 : decode cX12_feed 0 = .ok (.iload_n 1, 1) := by decide +kernel
theorem dX12_feed_1 : decode cX12_feed 1 = .ok (.invokestatic 91, 3) := by decide +kernel
theorem dX12_feed_4 : decode cX12_feed 4 = .ok (.iload_n 2, 1) := by decide +kernel
theorem dX12_feed_5 : decode cX12_feed 5 = .ok (.invokestatic 91, 3) := by decide +kernel
theorem dX12_feed_8 : decode cX12_feed 8 = .ok (.iadd, 1) := by decide +kernel
theorem dX12_feed_9 : decode cX12_feed 9 = .ok (.iload_n 3, 1) := by decide +kernel
theorem dX12_feed_10 : decode cX12_feed 10 = .ok (.invokestatic 91, 3) := by decide +kernel
theorem dX12_feed_13 : decode cX12_feed 13 = .ok (.iadd, 1) := by decide +kernel
theorem dX12_feed_14 : decode cX12_feed 14 = .ok (.iload 4, 2) := by decide +kernel
theorem dX12_feed_16 : decode cX12_feed 16 = .ok (.invokestatic 91, 3) := by decide +kernel
theorem dX12_feed_19 : decode cX12_feed 19 = .ok (.iadd, 1) := by decide +kernel
theorem dX12_feed_20 : decode cX12_feed 20 = .ok (.iload 5, 2) := by decide +kernel
theorem dX12_feed_22 : decode cX12_feed 22 = .ok (.invokestatic 91, 3) := by decide +kernel
theorem dX12_feed_25 : decode cX12_feed 25 = .ok (.iadd, 1) := by decide +kernel
theorem dX12_feed_26 : decode cX12_feed 26 = .ok (.istore 6, 2) := by decide +kernel
theorem dX12_feed_28 : decode cX12_feed 28 = .ok (.aload_n 0, 1) := by decide +kernel
theorem dX12_feed_29 : decode cX12_feed 29 = .ok (.getfield 10, 3) := by decide +kernel
theorem dX12_feed_32 : decode cX12_feed 32 = .ok (.getfield 95, 3) := by decide +kernel
theorem dX12_feed_35 : decode cX12_feed 35 = .ok (.iload 6, 2) := by decide +kernel
theorem dX12_feed_37 : decode cX12_feed 37 = .ok (.iadd, 1) := by decide +kernel
theorem dX12_feed_38 : decode cX12_feed 38 = .ok (.sipush 240, 3) := by decide +kernel
theorem dX12_feed_41 : decode cX12_feed 41 = .ok (.if_icmp .le 5, 3) := by decide +kernel
theorem dX12_feed_44 : decode cX12_feed 44 = .ok (.iconst (-1), 1) := by decide +kernel
theorem dX12_feed_45 : decode cX12_feed 45 = .ok (.ireturn, 1) := by decide +kernel
theorem dX12_feed_46 : decode cX12_feed 46 = .ok (.aload_n 0, 1) := by decide +kernel
theorem dX12_feed_47 : decode cX12_feed 47 = .ok (.getfield 10, 3) := by decide +kernel
theorem dX12_feed_50 : decode cX12_feed 50 = .ok (.iload_n 1, 1) := by decide +kernel
theorem dX12_feed_51 : decode cX12_feed 51 = .ok (.invokevirtual 98, 3) := by decide +kernel
theorem dX12_feed_54 : decode cX12_feed 54 = .ok (.aload_n 0, 1) := by decide +kernel
theorem dX12_feed_55 : decode cX12_feed 55 = .ok (.getfield 10, 3) := by decide +kernel
theorem dX12_feed_58 : decode cX12_feed 58 = .ok (.iload_n 2, 1) := by decide +kernel
theorem dX12_feed_59 : decode cX12_feed 59 = .ok (.invokevirtual 98, 3) := by decide +kernel
theorem dX12_feed_62 : decode cX12_feed 62 = .ok (.aload_n 0, 1) := by decide +kernel
theorem dX12_feed_63 : decode cX12_feed 63 = .ok (.getfield 10, 3) := by decide +kernel
theorem dX12_feed_66 : decode cX12_feed 66 = .ok (.iload_n 3, 1) := by decide +kernel
theorem dX12_feed_67 : decode cX12_feed 67 = .ok (.invokevirtual 98, 3) := by decide +kernel
theorem dX12_feed_70 : decode cX12_feed 70 = .ok (.aload_n 0, 1) := by decide +kernel
theorem dX12_feed_71 : decode cX12_feed 71 = .ok (.getfield 10, 3) := by decide +kernel
theorem dX12_feed_74 : decode cX12_feed 74 = .ok (.iload 4, 2) := by decide +kernel
theorem dX12_feed_76 : decode cX12_feed 76 = .ok (.invokevirtual 98, 3) := by decide +kernel
theorem dX12_feed_79 : decode cX12_feed 79 = .ok (.aload_n 0, 1) := by decide +kernel
theorem dX12_feed_80 : decode cX12_feed 80 = .ok (.getfield 10, 3) := by decide +kernel
theorem dX12_feed_83 : decode cX12_feed 83 = .ok (.iload 5, 2) := by decide +kernel
theorem dX12_feed_85 : decode cX12_feed 85 = .ok (.invokevirtual 98, 3) := by decide +kernel
theorem dX12_feed_88 : decode cX12_feed 88 = .ok (.aload_n 0, 1) := by decide +kernel
theorem dX12_feed_89 : decode cX12_feed 89 = .ok (.getfield 10, 3) := by decide +kernel
theorem dX12_feed_92 : decode cX12_feed 92 = .ok (.getfield 95, 3) := by decide +kernel
theorem dX12_feed_95 : decode cX12_feed 95 = .ok (.ireturn, 1) := by decide +kernel
theorem dX12_end_0 : decode cX12_end 0 = .ok (.iload_n 1, 1) := by decide +kernel
theorem dX12_end_1 : decode cX12_end 1 = .ok (.ifCond .lt 14, 3) := by decide +kernel
theorem dX12_end_4 : decode cX12_end 4 = .ok (.iload_n 1, 1) := by decide +kernel
theorem dX12_end_5 : decode cX12_end 5 = .ok (.aload_n 0, 1) := by decide +kernel
theorem dX12_end_6 : decode cX12_end 6 = .ok (.getfield 10, 3) := by decide +kernel
theorem dX12_end_9 : decode cX12_end 9 = .ok (.getfield 95, 3) := by decide +kernel
theorem dX12_end_12 : decode cX12_end 12 = .ok (.if_icmp .le 5, 3) := by decide +kernel
theorem dX12_end_15 : decode cX12_end 15 = .ok (.iconst 0, 1) := by decide +kernel
theorem dX12_end_16 : decode cX12_end 16 = .ok (.ireturn, 1) := by decide +kernel
theorem dX12_end_17 : decode cX12_end 17 = .ok (.aload_n 0, 1) := by decide +kernel
theorem dX12_end_18 : decode cX12_end 18 = .ok (.getfield 10, 3) := by decide +kernel
theorem dX12_end_21 : decode cX12_end 21 = .ok (.iload_n 1, 1) := by decide +kernel
theorem dX12_end_22 : decode cX12_end 22 = .ok (.putfield 95, 3) := by decide +kernel
theorem dX12_end_25 : decode cX12_end 25 = .ok (.iconst 1, 1) := by decide +kernel
theorem dX12_end_26 : decode cX12_end 26 = .ok (.ireturn, 1) := by decide +kernel
theorem dX12_fault_0 : decode cX12_fault 0 = .ok (.iload_n 1, 1) := by decide +kernel
theorem dX12_fault_1 : decode cX12_fault 1 = .ok (.ifCond .ne 20, 3) := by decide +kernel
theorem dX12_fault_4 : decode cX12_fault 4 = .ok (.aload_n 0, 1) := by decide +kernel
theorem dX12_fault_5 : decode cX12_fault 5 = .ok (.getfield 35, 3) := by decide +kernel
theorem dX12_fault_8 : decode cX12_fault 8 = .ok (.aload_n 0, 1) := by decide +kernel
theorem dX12_fault_9 : decode cX12_fault 9 = .ok (.getfield 18, 3) := by decide +kernel
theorem dX12_fault_12 : decode cX12_fault 12 = .ok (.aload_n 0, 1) := by decide +kernel
theorem dX12_fault_13 : decode cX12_fault 13 = .ok (.getfield 102, 3) := by decide +kernel
theorem dX12_fault_16 : decode cX12_fault 16 = .ok (.aaload, 1) := by decide +kernel
theorem dX12_fault_17 : decode cX12_fault 17 = .ok (.invokevirtual 105, 3) := by decide +kernel
theorem dX12_fault_20 : decode cX12_fault 20 = .ok (.ireturn, 1) := by decide +kernel
theorem dX12_fault_21 : decode cX12_fault 21 = .ok (.iload_n 1, 1) := by decide +kernel
theorem dX12_fault_22 : decode cX12_fault 22 = .ok (.iconst 1, 1) := by decide +kernel
theorem dX12_fault_23 : decode cX12_fault 23 = .ok (.if_icmp .ne 22, 3) := by decide +kernel
theorem dX12_fault_26 : decode cX12_fault 26 = .ok (.aload_n 0, 1) := by decide +kernel
theorem dX12_fault_27 : decode cX12_fault 27 = .ok (.getfield 42, 3) := by decide +kernel
theorem dX12_fault_30 : decode cX12_fault 30 = .ok (.aload_n 0, 1) := by decide +kernel
theorem dX12_fault_31 : decode cX12_fault 31 = .ok (.getfield 25, 3) := by decide +kernel
theorem dX12_fault_34 : decode cX12_fault 34 = .ok (.aload_n 0, 1) := by decide +kernel
theorem dX12_fault_35 : decode cX12_fault 35 = .ok (.getfield 109, 3) := by decide +kernel
theorem dX12_fault_38 : decode cX12_fault 38 = .ok (.aaload, 1) := by decide +kernel
theorem dX12_fault_39 : decode cX12_fault 39 = .ok (.invokevirtual 112, 3) := by decide +kernel
theorem dX12_fault_42 : decode cX12_fault 42 = .ok (.goto 5, 3) := by decide +kernel
theorem dX12_fault_45 : decode cX12_fault 45 = .ok (.bipush (-2), 2) := by decide +kernel
theorem dX12_fault_47 : decode cX12_fault 47 = .ok (.ireturn, 1) := by decide +kernel
theorem dX12_text_0 : decode cX12_text 0 = .ok (.iload_n 1, 1) := by decide +kernel
theorem dX12_text_1 : decode cX12_text 1 = .ok (.ifCond .ne 66, 3) := by decide +kernel
theorem dX12_text_4 : decode cX12_text 4 = .ok (.aload_n 0, 1) := by decide +kernel
theorem dX12_text_5 : decode cX12_text 5 = .ok (.getfield 102, 3) := by decide +kernel
theorem dX12_text_8 : decode cX12_text 8 = .ok (.iconst 3, 1) := by decide +kernel
theorem dX12_text_9 : decode cX12_text 9 = .ok (.if_icmp .ge 58, 3) := by decide +kernel
theorem dX12_text_12 : decode cX12_text 12 = .ok (.aload_n 0, 1) := by decide +kernel
theorem dX12_text_13 : decode cX12_text 13 = .ok (.getfield 35, 3) := by decide +kernel
theorem dX12_text_16 : decode cX12_text 16 = .ok (.aload_n 0, 1) := by decide +kernel
theorem dX12_text_17 : decode cX12_text 17 = .ok (.getfield 18, 3) := by decide +kernel
theorem dX12_text_20 : decode cX12_text 20 = .ok (.aload_n 0, 1) := by decide +kernel
theorem dX12_text_21 : decode cX12_text 21 = .ok (.getfield 102, 3) := by decide +kernel
theorem dX12_text_24 : decode cX12_text 24 = .ok (.aaload, 1) := by decide +kernel
theorem dX12_text_25 : decode cX12_text 25 = .ok (.invokevirtual 105, 3) := by decide +kernel
theorem dX12_text_28 : decode cX12_text 28 = .ok (.iconst (-1), 1) := by decide +kernel
theorem dX12_text_29 : decode cX12_text 29 = .ok (.if_icmp .ne 38, 3) := by decide +kernel
theorem dX12_text_32 : decode cX12_text 32 = .ok (.aload_n 0, 1) := by decide +kernel
theorem dX12_text_33 : decode cX12_text 33 = .ok (.getfield 10, 3) := by decide +kernel
theorem dX12_text_36 : decode cX12_text 36 = .ok (.iconst 0, 1) := by decide +kernel
theorem dX12_text_37 : decode cX12_text 37 = .ok (.putfield 95, 3) := by decide +kernel
theorem dX12_text_40 : decode cX12_text 40 = .ok (.aload_n 0, 1) := by decide +kernel
theorem dX12_text_41 : decode cX12_text 41 = .ok (.dup, 1) := by decide +kernel
theorem dX12_text_42 : decode cX12_text 42 = .ok (.getfield 102, 3) := by decide +kernel
theorem dX12_text_45 : decode cX12_text 45 = .ok (.iconst 1, 1) := by decide +kernel
theorem dX12_text_46 : decode cX12_text 46 = .ok (.iadd, 1) := by decide +kernel
theorem dX12_text_47 : decode cX12_text 47 = .ok (.putfield 102, 3) := by decide +kernel
theorem dX12_text_50 : decode cX12_text 50 = .ok (.aload_n 0, 1) := by decide +kernel
theorem dX12_text_51 : decode cX12_text 51 = .ok (.aload_n 0, 1) := by decide +kernel
theorem dX12_text_52 : decode cX12_text 52 = .ok (.getfield 102, 3) := by decide +kernel
theorem dX12_text_55 : decode cX12_text 55 = .ok (.iconst 1, 1) := by decide +kernel
theorem dX12_text_56 : decode cX12_text 56 = .ok (.isub, 1) := by decide +kernel
theorem dX12_text_57 : decode cX12_text 57 = .ok (.invokevirtual 115, 3) := by decide +kernel
theorem dX12_text_60 : decode cX12_text 60 = .ok (.aload_n 0, 1) := by decide +kernel
theorem dX12_text_61 : decode cX12_text 61 = .ok (.getfield 102, 3) := by decide +kernel
theorem dX12_text_64 : decode cX12_text 64 = .ok (.iconst 1, 1) := by decide +kernel
theorem dX12_text_65 : decode cX12_text 65 = .ok (.isub, 1) := by decide +kernel
theorem dX12_text_66 : decode cX12_text 66 = .ok (.ireturn, 1) := by decide +kernel
theorem dX12_text_67 : decode cX12_text 67 = .ok (.iload_n 1, 1) := by decide +kernel
theorem dX12_text_68 : decode cX12_text 68 = .ok (.iconst 1, 1) := by decide +kernel
theorem dX12_text_69 : decode cX12_text 69 = .ok (.if_icmp .ne 57, 3) := by decide +kernel
theorem dX12_text_72 : decode cX12_text 72 = .ok (.aload_n 0, 1) := by decide +kernel
theorem dX12_text_73 : decode cX12_text 73 = .ok (.getfield 109, 3) := by decide +kernel
theorem dX12_text_76 : decode cX12_text 76 = .ok (.bipush 6, 2) := by decide +kernel
theorem dX12_text_78 : decode cX12_text 78 = .ok (.if_icmp .ge 48, 3) := by decide +kernel
theorem dX12_text_81 : decode cX12_text 81 = .ok (.aload_n 0, 1) := by decide +kernel
theorem dX12_text_82 : decode cX12_text 82 = .ok (.getfield 42, 3) := by decide +kernel
theorem dX12_text_85 : decode cX12_text 85 = .ok (.aload_n 0, 1) := by decide +kernel
theorem dX12_text_86 : decode cX12_text 86 = .ok (.getfield 25, 3) := by decide +kernel
theorem dX12_text_89 : decode cX12_text 89 = .ok (.aload_n 0, 1) := by decide +kernel
theorem dX12_text_90 : decode cX12_text 90 = .ok (.getfield 109, 3) := by decide +kernel
theorem dX12_text_93 : decode cX12_text 93 = .ok (.aaload, 1) := by decide +kernel
theorem dX12_text_94 : decode cX12_text 94 = .ok (.invokevirtual 112, 3) := by decide +kernel
theorem dX12_text_97 : decode cX12_text 97 = .ok (.iconst (-1), 1) := by decide +kernel
theorem dX12_text_98 : decode cX12_text 98 = .ok (.if_icmp .ne 28, 3) := by decide +kernel
theorem dX12_text_101 : decode cX12_text 101 = .ok (.aload_n 0, 1) := by decide +kernel
theorem dX12_text_102 : decode cX12_text 102 = .ok (.getfield 10, 3) := by decide +kernel
theorem dX12_text_105 : decode cX12_text 105 = .ok (.iconst 0, 1) := by decide +kernel
theorem dX12_text_106 : decode cX12_text 106 = .ok (.putfield 95, 3) := by decide +kernel
theorem dX12_text_109 : decode cX12_text 109 = .ok (.aload_n 0, 1) := by decide +kernel
theorem dX12_text_110 : decode cX12_text 110 = .ok (.dup, 1) := by decide +kernel
theorem dX12_text_111 : decode cX12_text 111 = .ok (.getfield 109, 3) := by decide +kernel
theorem dX12_text_114 : decode cX12_text 114 = .ok (.iconst 1, 1) := by decide +kernel
theorem dX12_text_115 : decode cX12_text 115 = .ok (.iadd, 1) := by decide +kernel
theorem dX12_text_116 : decode cX12_text 116 = .ok (.putfield 109, 3) := by decide +kernel
theorem dX12_text_119 : decode cX12_text 119 = .ok (.aload_n 0, 1) := by decide +kernel
theorem dX12_text_120 : decode cX12_text 120 = .ok (.getfield 109, 3) := by decide +kernel
theorem dX12_text_123 : decode cX12_text 123 = .ok (.iconst 1, 1) := by decide +kernel
theorem dX12_text_124 : decode cX12_text 124 = .ok (.isub, 1) := by decide +kernel
theorem dX12_text_125 : decode cX12_text 125 = .ok (.ireturn, 1) := by decide +kernel
theorem dX12_text_126 : decode cX12_text 126 = .ok (.iconst (-1), 1) := by decide +kernel
theorem dX12_text_127 : decode cX12_text 127 = .ok (.ireturn, 1) := by decide +kernel
theorem dX12_call_0 : decode cX12_call 0 = .ok (.iload_n 1, 1) := by decide +kernel
theorem dX12_call_1 : decode cX12_call 1 = .ok (.ifCond .lt 11, 3) := by decide +kernel
theorem dX12_call_4 : decode cX12_call 4 = .ok (.iload_n 1, 1) := by decide +kernel
theorem dX12_call_5 : decode cX12_call 5 = .ok (.aload_n 0, 1) := by decide +kernel
theorem dX12_call_6 : decode cX12_call 6 = .ok (.getfield 102, 3) := by decide +kernel
theorem dX12_call_9 : decode cX12_call 9 = .ok (.if_icmp .lt 5, 3) := by decide +kernel
theorem dX12_call_12 : decode cX12_call 12 = .ok (.iconst (-1), 1) := by decide +kernel
theorem dX12_call_13 : decode cX12_call 13 = .ok (.ireturn, 1) := by decide +kernel
theorem dX12_call_14 : decode cX12_call 14 = .ok (.aload_n 0, 1) := by decide +kernel
theorem dX12_call_15 : decode cX12_call 15 = .ok (.iload_n 1, 1) := by decide +kernel
theorem dX12_call_16 : decode cX12_call 16 = .ok (.invokevirtual 115, 3) := by decide +kernel
theorem dX12_call_19 : decode cX12_call 19 = .ok (.aload_n 0, 1) := by decide +kernel
theorem dX12_call_20 : decode cX12_call 20 = .ok (.getfield 51, 3) := by decide +kernel
theorem dX12_call_23 : decode cX12_call 23 = .ok (.getfield 118, 3) := by decide +kernel
theorem dX12_call_26 : decode cX12_call 26 = .ok (.getfield 122, 3) := by decide +kernel
theorem dX12_call_29 : decode cX12_call 29 = .ok (.ireturn, 1) := by decide +kernel
theorem dX12_self_0 : decode cX12_self 0 = .ok (.aload_n 0, 1) := by decide +kernel
theorem dX12_self_1 : decode cX12_self 1 = .ok (.getfield 51, 3) := by decide +kernel
theorem dX12_self_4 : decode cX12_self 4 = .ok (.getfield 118, 3) := by decide +kernel
theorem dX12_self_7 : decode cX12_self 7 = .ok (.iload_n 1, 1) := by decide +kernel
theorem dX12_self_8 : decode cX12_self 8 = .ok (.invokevirtual 125, 3) := by decide +kernel
theorem dX12_self_11 : decode cX12_self 11 = .ok (.ifCond .eq 13, 3) := by decide +kernel
theorem dX12_self_14 : decode cX12_self 14 = .ok (.iload_n 2, 1) := by decide +kernel
theorem dX12_self_15 : decode cX12_self 15 = .ok (.ifCond .lt 9, 3) := by decide +kernel
theorem dX12_self_18 : decode cX12_self 18 = .ok (.iload_n 2, 1) := by decide +kernel
theorem dX12_self_19 : decode cX12_self 19 = .ok (.bipush 8, 2) := by decide +kernel
theorem dX12_self_21 : decode cX12_self 21 = .ok (.if_icmp .le 13, 3) := by decide +kernel
theorem dX12_self_24 : decode cX12_self 24 = .ok (.new 129, 3) := by decide +kernel
theorem dX12_self_27 : decode cX12_self 27 = .ok (.dup, 1) := by decide +kernel
theorem dX12_self_28 : decode cX12_self 28 = .ok (.ldc 131, 2) := by decide +kernel
theorem dX12_self_30 : decode cX12_self 30 = .ok (.invokespecial 133, 3) := by decide +kernel
theorem dX12_self_33 : decode cX12_self 33 = .ok (.athrow, 1) := by decide +kernel
theorem dX12_self_34 : decode cX12_self 34 = .ok (.iload_n 2, 1) := by decide +kernel
theorem dX12_self_35 : decode cX12_self 35 = .ok (.bipush 7, 2) := by decide +kernel
theorem dX12_self_37 : decode cX12_self 37 = .ok (.if_icmp .ne 20, 3) := by decide +kernel
theorem dX12_self_40 : decode cX12_self 40 = .ok (.aload_n 0, 1) := by decide +kernel
theorem dX12_self_41 : decode cX12_self 41 = .ok (.getfield 51, 3) := by decide +kernel
theorem dX12_self_44 : decode cX12_self 44 = .ok (.iload_n 1, 1) := by decide +kernel
theorem dX12_self_45 : decode cX12_self 45 = .ok (.invokevirtual 136, 3) := by decide +kernel
theorem dX12_self_48 : decode cX12_self 48 = .ok (.ifCond .eq 7, 3) := by decide +kernel
theorem dX12_self_51 : decode cX12_self 51 = .ok (.iconst 1, 1) := by decide +kernel
theorem dX12_self_52 : decode cX12_self 52 = .ok (.goto 4, 3) := by decide +kernel
theorem dX12_self_55 : decode cX12_self 55 = .ok (.iconst 0, 1) := by decide +kernel
theorem dX12_self_56 : decode cX12_self 56 = .ok (.ireturn, 1) := by decide +kernel
theorem dX12_self_57 : decode cX12_self 57 = .ok (.iload_n 2, 1) := by decide +kernel
theorem dX12_self_58 : decode cX12_self 58 = .ok (.bipush 8, 2) := by decide +kernel
theorem dX12_self_60 : decode cX12_self 60 = .ok (.if_icmp .ne 18, 3) := by decide +kernel
theorem dX12_self_63 : decode cX12_self 63 = .ok (.aload_n 0, 1) := by decide +kernel
theorem dX12_self_64 : decode cX12_self 64 = .ok (.getfield 51, 3) := by decide +kernel
theorem dX12_self_67 : decode cX12_self 67 = .ok (.getfield 118, 3) := by decide +kernel
theorem dX12_self_70 : decode cX12_self 70 = .ok (.getfield 139, 3) := by decide +kernel
theorem dX12_self_73 : decode cX12_self 73 = .ok (.iload_n 1, 1) := by decide +kernel
theorem dX12_self_74 : decode cX12_self 74 = .ok (.iaload, 1) := by decide +kernel
theorem dX12_self_75 : decode cX12_self 75 = .ok (.goto 17, 3) := by decide +kernel
theorem dX12_self_78 : decode cX12_self 78 = .ok (.aload_n 0, 1) := by decide +kernel
theorem dX12_self_79 : decode cX12_self 79 = .ok (.getfield 51, 3) := by decide +kernel
theorem dX12_self_82 : decode cX12_self 82 = .ok (.getfield 118, 3) := by decide +kernel
theorem dX12_self_85 : decode cX12_self 85 = .ok (.getfield 143, 3) := by decide +kernel
theorem dX12_self_88 : decode cX12_self 88 = .ok (.iload_n 1, 1) := by decide +kernel
theorem dX12_self_89 : decode cX12_self 89 = .ok (.aaload, 1) := by decide +kernel
theorem dX12_self_90 : decode cX12_self 90 = .ok (.iload_n 2, 1) := by decide +kernel
theorem dX12_self_91 : decode cX12_self 91 = .ok (.iaload, 1) := by decide +kernel
theorem dX12_self_92 : decode cX12_self 92 = .ok (.ireturn, 1) := by decide +kernel
theorem dX12_way_0 : decode cX12_way 0 = .ok (.aload_n 0, 1) := by decide +kernel
theorem dX12_way_1 : decode cX12_way 1 = .ok (.getfield 51, 3) := by decide +kernel
theorem dX12_way_4 : decode cX12_way 4 = .ok (.getfield 118, 3) := by decide +kernel
theorem dX12_way_7 : decode cX12_way 7 = .ok (.iload_n 1, 1) := by decide +kernel
theorem dX12_way_8 : decode cX12_way 8 = .ok (.invokevirtual 125, 3) := by decide +kernel
theorem dX12_way_11 : decode cX12_way 11 = .ok (.ifCond .eq 23, 3) := by decide +kernel
theorem dX12_way_14 : decode cX12_way 14 = .ok (.iload_n 2, 1) := by decide +kernel
theorem dX12_way_15 : decode cX12_way 15 = .ok (.ifCond .lt 19, 3) := by decide +kernel
theorem dX12_way_18 : decode cX12_way 18 = .ok (.iload_n 2, 1) := by decide +kernel
theorem dX12_way_19 : decode cX12_way 19 = .ok (.aload_n 0, 1) := by decide +kernel
theorem dX12_way_20 : decode cX12_way 20 = .ok (.getfield 51, 3) := by decide +kernel
theorem dX12_way_23 : decode cX12_way 23 = .ok (.getfield 118, 3) := by decide +kernel
theorem dX12_way_26 : decode cX12_way 26 = .ok (.getfield 139, 3) := by decide +kernel
theorem dX12_way_29 : decode cX12_way 29 = .ok (.iload_n 1, 1) := by decide +kernel
theorem dX12_way_30 : decode cX12_way 30 = .ok (.iaload, 1) := by decide +kernel
theorem dX12_way_31 : decode cX12_way 31 = .ok (.if_icmp .lt 5, 3) := by decide +kernel
theorem dX12_way_34 : decode cX12_way 34 = .ok (.iconst (-1), 1) := by decide +kernel
theorem dX12_way_35 : decode cX12_way 35 = .ok (.ireturn, 1) := by decide +kernel
theorem dX12_way_36 : decode cX12_way 36 = .ok (.bipush 10, 2) := by decide +kernel
theorem dX12_way_38 : decode cX12_way 38 = .ok (.aload_n 0, 1) := by decide +kernel
theorem dX12_way_39 : decode cX12_way 39 = .ok (.getfield 51, 3) := by decide +kernel
theorem dX12_way_42 : decode cX12_way 42 = .ok (.getfield 118, 3) := by decide +kernel
theorem dX12_way_45 : decode cX12_way 45 = .ok (.getfield 147, 3) := by decide +kernel
theorem dX12_way_48 : decode cX12_way 48 = .ok (.iload_n 1, 1) := by decide +kernel
theorem dX12_way_49 : decode cX12_way 49 = .ok (.aaload, 1) := by decide +kernel
theorem dX12_way_50 : decode cX12_way 50 = .ok (.iload_n 2, 1) := by decide +kernel
theorem dX12_way_51 : decode cX12_way 51 = .ok (.iaload, 1) := by decide +kernel
theorem dX12_way_52 : decode cX12_way 52 = .ok (.imul, 1) := by decide +kernel
theorem dX12_way_53 : decode cX12_way 53 = .ok (.aload_n 0, 1) := by decide +kernel
theorem dX12_way_54 : decode cX12_way 54 = .ok (.getfield 51, 3) := by decide +kernel
theorem dX12_way_57 : decode cX12_way 57 = .ok (.getfield 118, 3) := by decide +kernel
theorem dX12_way_60 : decode cX12_way 60 = .ok (.getfield 150, 3) := by decide +kernel
theorem dX12_way_63 : decode cX12_way 63 = .ok (.iload_n 1, 1) := by decide +kernel
theorem dX12_way_64 : decode cX12_way 64 = .ok (.aaload, 1) := by decide +kernel
theorem dX12_way_65 : decode cX12_way 65 = .ok (.iload_n 2, 1) := by decide +kernel
theorem dX12_way_66 : decode cX12_way 66 = .ok (.iaload, 1) := by decide +kernel
theorem dX12_way_67 : decode cX12_way 67 = .ok (.iadd, 1) := by decide +kernel
theorem dX12_way_68 : decode cX12_way 68 = .ok (.ireturn, 1) := by decide +kernel
theorem dX12_fork_0 : decode cX12_fork 0 = .ok (.aload_n 0, 1) := by decide +kernel
theorem dX12_fork_1 : decode cX12_fork 1 = .ok (.getfield 51, 3) := by decide +kernel
theorem dX12_fork_4 : decode cX12_fork 4 = .ok (.getfield 118, 3) := by decide +kernel
theorem dX12_fork_7 : decode cX12_fork 7 = .ok (.astore_n 3, 1) := by decide +kernel
theorem dX12_fork_8 : decode cX12_fork 8 = .ok (.aload_n 3, 1) := by decide +kernel
theorem dX12_fork_9 : decode cX12_fork 9 = .ok (.iload_n 1, 1) := by decide +kernel
theorem dX12_fork_10 : decode cX12_fork 10 = .ok (.invokevirtual 153, 3) := by decide +kernel
theorem dX12_fork_13 : decode cX12_fork 13 = .ok (.ifCond .ne 5, 3) := by decide +kernel
theorem dX12_fork_16 : decode cX12_fork 16 = .ok (.iconst (-1), 1) := by decide +kernel
theorem dX12_fork_17 : decode cX12_fork 17 = .ok (.ireturn, 1) := by decide +kernel
theorem dX12_fork_18 : decode cX12_fork 18 = .ok (.iload_n 2, 1) := by decide +kernel
theorem dX12_fork_19 : decode cX12_fork 19 = .ok (.tableswitch 84 0 5 #[37, 44, 51, 58, 70, 77], 37) := by decide +kernel
theorem dX12_fork_56 : decode cX12_fork 56 = .ok (.aload_n 3, 1) := by decide +kernel
theorem dX12_fork_57 : decode cX12_fork 57 = .ok (.getfield 156, 3) := by decide +kernel
theorem dX12_fork_60 : decode cX12_fork 60 = .ok (.iload_n 1, 1) := by decide +kernel
theorem dX12_fork_61 : decode cX12_fork 61 = .ok (.iaload, 1) := by decide +kernel
theorem dX12_fork_62 : decode cX12_fork 62 = .ok (.ireturn, 1) := by decide +kernel
theorem dX12_fork_63 : decode cX12_fork 63 = .ok (.aload_n 3, 1) := by decide +kernel
theorem dX12_fork_64 : decode cX12_fork 64 = .ok (.getfield 159, 3) := by decide +kernel
theorem dX12_fork_67 : decode cX12_fork 67 = .ok (.iload_n 1, 1) := by decide +kernel
theorem dX12_fork_68 : decode cX12_fork 68 = .ok (.iaload, 1) := by decide +kernel
theorem dX12_fork_69 : decode cX12_fork 69 = .ok (.ireturn, 1) := by decide +kernel
theorem dX12_fork_70 : decode cX12_fork 70 = .ok (.aload_n 3, 1) := by decide +kernel
theorem dX12_fork_71 : decode cX12_fork 71 = .ok (.getfield 162, 3) := by decide +kernel
theorem dX12_fork_74 : decode cX12_fork 74 = .ok (.iload_n 1, 1) := by decide +kernel
theorem dX12_fork_75 : decode cX12_fork 75 = .ok (.iaload, 1) := by decide +kernel
theorem dX12_fork_76 : decode cX12_fork 76 = .ok (.ireturn, 1) := by decide +kernel
theorem dX12_fork_77 : decode cX12_fork 77 = .ok (.aload_n 0, 1) := by decide +kernel
theorem dX12_fork_78 : decode cX12_fork 78 = .ok (.getfield 51, 3) := by decide +kernel
theorem dX12_fork_81 : decode cX12_fork 81 = .ok (.iload_n 1, 1) := by decide +kernel
theorem dX12_fork_82 : decode cX12_fork 82 = .ok (.invokevirtual 165, 3) := by decide +kernel
theorem dX12_fork_85 : decode cX12_fork 85 = .ok (.invokestatic 168, 3) := by decide +kernel
theorem dX12_fork_88 : decode cX12_fork 88 = .ok (.ireturn, 1) := by decide +kernel
theorem dX12_fork_89 : decode cX12_fork 89 = .ok (.aload_n 3, 1) := by decide +kernel
theorem dX12_fork_90 : decode cX12_fork 90 = .ok (.getfield 173, 3) := by decide +kernel
theorem dX12_fork_93 : decode cX12_fork 93 = .ok (.iload_n 1, 1) := by decide +kernel
theorem dX12_fork_94 : decode cX12_fork 94 = .ok (.iaload, 1) := by decide +kernel
theorem dX12_fork_95 : decode cX12_fork 95 = .ok (.ireturn, 1) := by decide +kernel
theorem dX12_fork_96 : decode cX12_fork 96 = .ok (.aload_n 3, 1) := by decide +kernel
theorem dX12_fork_97 : decode cX12_fork 97 = .ok (.getfield 176, 3) := by decide +kernel
theorem dX12_fork_100 : decode cX12_fork 100 = .ok (.iload_n 1, 1) := by decide +kernel
theorem dX12_fork_101 : decode cX12_fork 101 = .ok (.iaload, 1) := by decide +kernel
theorem dX12_fork_102 : decode cX12_fork 102 = .ok (.ireturn, 1) := by decide +kernel
theorem dX12_fork_103 : decode cX12_fork 103 = .ok (.iconst (-1), 1) := by decide +kernel
theorem dX12_fork_104 : decode cX12_fork 104 = .ok (.ireturn, 1) := by decide +kernel
theorem dX12_branch_0 : decode cX12_branch 0 = .ok (.aload_n 0, 1) := by decide +kernel
theorem dX12_branch_1 : decode cX12_branch 1 = .ok (.getfield 51, 3) := by decide +kernel
theorem dX12_branch_4 : decode cX12_branch 4 = .ok (.getfield 118, 3) := by decide +kernel
theorem dX12_branch_7 : decode cX12_branch 7 = .ok (.astore 4, 2) := by decide +kernel
theorem dX12_branch_9 : decode cX12_branch 9 = .ok (.aload 4, 2) := by decide +kernel
theorem dX12_branch_11 : decode cX12_branch 11 = .ok (.iload_n 1, 1) := by decide +kernel
theorem dX12_branch_12 : decode cX12_branch 12 = .ok (.iload_n 2, 1) := by decide +kernel
theorem dX12_branch_13 : decode cX12_branch 13 = .ok (.invokevirtual 179, 3) := by decide +kernel
theorem dX12_branch_16 : decode cX12_branch 16 = .ok (.ifCond .eq 13, 3) := by decide +kernel
theorem dX12_branch_19 : decode cX12_branch 19 = .ok (.iload_n 3, 1) := by decide +kernel
theorem dX12_branch_20 : decode cX12_branch 20 = .ok (.ifCond .lt 9, 3) := by decide +kernel
theorem dX12_branch_23 : decode cX12_branch 23 = .ok (.iload_n 3, 1) := by decide +kernel
theorem dX12_branch_24 : decode cX12_branch 24 = .ok (.bipush 6, 2) := by decide +kernel
theorem dX12_branch_26 : decode cX12_branch 26 = .ok (.if_icmp .le 5, 3) := by decide +kernel
theorem dX12_branch_29 : decode cX12_branch 29 = .ok (.iconst (-1), 1) := by decide +kernel
theorem dX12_branch_30 : decode cX12_branch 30 = .ok (.ireturn, 1) := by decide +kernel
theorem dX12_branch_31 : decode cX12_branch 31 = .ok (.iload_n 3, 1) := by decide +kernel
theorem dX12_branch_32 : decode cX12_branch 32 = .ok (.iconst 5, 1) := by decide +kernel
theorem dX12_branch_33 : decode cX12_branch 33 = .ok (.if_icmp .ne 21, 3) := by decide +kernel
theorem dX12_branch_36 : decode cX12_branch 36 = .ok (.aload_n 0, 1) := by decide +kernel
theorem dX12_branch_37 : decode cX12_branch 37 = .ok (.getfield 51, 3) := by decide +kernel
theorem dX12_branch_40 : decode cX12_branch 40 = .ok (.iload_n 1, 1) := by decide +kernel
theorem dX12_branch_41 : decode cX12_branch 41 = .ok (.iload_n 2, 1) := by decide +kernel
theorem dX12_branch_42 : decode cX12_branch 42 = .ok (.invokevirtual 183, 3) := by decide +kernel
theorem dX12_branch_45 : decode cX12_branch 45 = .ok (.ifCond .eq 7, 3) := by decide +kernel
theorem dX12_branch_48 : decode cX12_branch 48 = .ok (.iconst 1, 1) := by decide +kernel
theorem dX12_branch_49 : decode cX12_branch 49 = .ok (.goto 4, 3) := by decide +kernel
theorem dX12_branch_52 : decode cX12_branch 52 = .ok (.iconst 0, 1) := by decide +kernel
theorem dX12_branch_53 : decode cX12_branch 53 = .ok (.ireturn, 1) := by decide +kernel
theorem dX12_branch_54 : decode cX12_branch 54 = .ok (.iload_n 3, 1) := by decide +kernel
theorem dX12_branch_55 : decode cX12_branch 55 = .ok (.bipush 6, 2) := by decide +kernel
theorem dX12_branch_57 : decode cX12_branch 57 = .ok (.if_icmp .ne 13, 3) := by decide +kernel
theorem dX12_branch_60 : decode cX12_branch 60 = .ok (.aload 4, 2) := by decide +kernel
theorem dX12_branch_62 : decode cX12_branch 62 = .ok (.iload_n 1, 1) := by decide +kernel
theorem dX12_branch_63 : decode cX12_branch 63 = .ok (.iload_n 2, 1) := by decide +kernel
theorem dX12_branch_64 : decode cX12_branch 64 = .ok (.invokevirtual 186, 3) := by decide +kernel
theorem dX12_branch_67 : decode cX12_branch 67 = .ok (.goto 11, 3) := by decide +kernel
theorem dX12_branch_70 : decode cX12_branch 70 = .ok (.aload 4, 2) := by decide +kernel
theorem dX12_branch_72 : decode cX12_branch 72 = .ok (.iload_n 1, 1) := by decide +kernel
theorem dX12_branch_73 : decode cX12_branch 73 = .ok (.iload_n 2, 1) := by decide +kernel
theorem dX12_branch_74 : decode cX12_branch 74 = .ok (.iload_n 3, 1) := by decide +kernel
theorem dX12_branch_75 : decode cX12_branch 75 = .ok (.invokevirtual 190, 3) := by decide +kernel
theorem dX12_branch_78 : decode cX12_branch 78 = .ok (.ireturn, 1) := by decide +kernel
theorem dX12_part_0 : decode cX12_part 0 = .ok (.aload_n 0, 1) := by decide +kernel
theorem dX12_part_1 : decode cX12_part 1 = .ok (.iload_n 1, 1) := by decide +kernel
theorem dX12_part_2 : decode cX12_part 2 = .ok (.iload_n 2, 1) := by decide +kernel
theorem dX12_part_3 : decode cX12_part 3 = .ok (.invokevirtual 194, 3) := by decide +kernel
theorem dX12_part_6 : decode cX12_part 6 = .ok (.ifCond .eq 12, 3) := by decide +kernel
theorem dX12_part_9 : decode cX12_part 9 = .ok (.iload_n 3, 1) := by decide +kernel
theorem dX12_part_10 : decode cX12_part 10 = .ok (.ifCond .lt 8, 3) := by decide +kernel
theorem dX12_part_13 : decode cX12_part 13 = .ok (.iload_n 3, 1) := by decide +kernel
theorem dX12_part_14 : decode cX12_part 14 = .ok (.iconst 1, 1) := by decide +kernel
theorem dX12_part_15 : decode cX12_part 15 = .ok (.if_icmp .le 5, 3) := by decide +kernel
theorem dX12_part_18 : decode cX12_part 18 = .ok (.iconst (-1), 1) := by decide +kernel
theorem dX12_part_19 : decode cX12_part 19 = .ok (.ireturn, 1) := by decide +kernel
theorem dX12_part_20 : decode cX12_part 20 = .ok (.aload_n 0, 1) := by decide +kernel
theorem dX12_part_21 : decode cX12_part 21 = .ok (.getfield 51, 3) := by decide +kernel
theorem dX12_part_24 : decode cX12_part 24 = .ok (.getfield 118, 3) := by decide +kernel
theorem dX12_part_27 : decode cX12_part 27 = .ok (.iload_n 1, 1) := by decide +kernel
theorem dX12_part_28 : decode cX12_part 28 = .ok (.iload_n 2, 1) := by decide +kernel
theorem dX12_part_29 : decode cX12_part 29 = .ok (.invokevirtual 197, 3) := by decide +kernel
theorem dX12_part_32 : decode cX12_part 32 = .ok (.istore 4, 2) := by decide +kernel
theorem dX12_part_34 : decode cX12_part 34 = .ok (.iload_n 3, 1) := by decide +kernel
theorem dX12_part_35 : decode cX12_part 35 = .ok (.ifCond .ne 8, 3) := by decide +kernel
theorem dX12_part_38 : decode cX12_part 38 = .ok (.iload 4, 2) := by decide +kernel
theorem dX12_part_40 : decode cX12_part 40 = .ok (.goto 16, 3) := by decide +kernel
theorem dX12_part_43 : decode cX12_part 43 = .ok (.aload_n 0, 1) := by decide +kernel
theorem dX12_part_44 : decode cX12_part 44 = .ok (.getfield 51, 3) := by decide +kernel
theorem dX12_part_47 : decode cX12_part 47 = .ok (.getfield 118, 3) := by decide +kernel
theorem dX12_part_50 : decode cX12_part 50 = .ok (.getfield 156, 3) := by decide +kernel
theorem dX12_part_53 : decode cX12_part 53 = .ok (.iload 4, 2) := by decide +kernel
theorem dX12_part_55 : decode cX12_part 55 = .ok (.iaload, 1) := by decide +kernel
theorem dX12_part_56 : decode cX12_part 56 = .ok (.ireturn, 1) := by decide +kernel
theorem dX12_open_0 : decode cX12_open 0 = .ok (.aload_n 0, 1) := by decide +kernel
theorem dX12_open_1 : decode cX12_open 1 = .ok (.getfield 51, 3) := by decide +kernel
theorem dX12_open_4 : decode cX12_open 4 = .ok (.getfield 118, 3) := by decide +kernel
theorem dX12_open_7 : decode cX12_open 7 = .ok (.iload_n 1, 1) := by decide +kernel
theorem dX12_open_8 : decode cX12_open 8 = .ok (.iload_n 2, 1) := by decide +kernel
theorem dX12_open_9 : decode cX12_open 9 = .ok (.invokevirtual 179, 3) := by decide +kernel
theorem dX12_open_12 : decode cX12_open 12 = .ok (.ifCond .eq 16, 3) := by decide +kernel
theorem dX12_open_15 : decode cX12_open 15 = .ok (.aload_n 0, 1) := by decide +kernel
theorem dX12_open_16 : decode cX12_open 16 = .ok (.getfield 51, 3) := by decide +kernel
theorem dX12_open_19 : decode cX12_open 19 = .ok (.iload_n 1, 1) := by decide +kernel
theorem dX12_open_20 : decode cX12_open 20 = .ok (.iload_n 2, 1) := by decide +kernel
theorem dX12_open_21 : decode cX12_open 21 = .ok (.invokevirtual 183, 3) := by decide +kernel
theorem dX12_open_24 : decode cX12_open 24 = .ok (.iload_n 3, 1) := by decide +kernel
theorem dX12_open_25 : decode cX12_open 25 = .ok (.if_icmp .ne 5, 3) := by decide +kernel
theorem dX12_open_28 : decode cX12_open 28 = .ok (.iconst (-1), 1) := by decide +kernel
theorem dX12_open_29 : decode cX12_open 29 = .ok (.ireturn, 1) := by decide +kernel
theorem dX12_open_30 : decode cX12_open 30 = .ok (.aload_n 0, 1) := by decide +kernel
theorem dX12_open_31 : decode cX12_open 31 = .ok (.getfield 51, 3) := by decide +kernel
theorem dX12_open_34 : decode cX12_open 34 = .ok (.iload_n 1, 1) := by decide +kernel
theorem dX12_open_35 : decode cX12_open 35 = .ok (.invokevirtual 165, 3) := by decide +kernel
theorem dX12_open_38 : decode cX12_open 38 = .ok (.iconst 1, 1) := by decide +kernel
theorem dX12_open_39 : decode cX12_open 39 = .ok (.iload_n 2, 1) := by decide +kernel
theorem dX12_open_40 : decode cX12_open 40 = .ok (.ishl, 1) := by decide +kernel
theorem dX12_open_41 : decode cX12_open 41 = .ok (.ixor, 1) := by decide +kernel
theorem dX12_open_42 : decode cX12_open 42 = .ok (.istore 4, 2) := by decide +kernel
theorem dX12_open_44 : decode cX12_open 44 = .ok (.iload 4, 2) := by decide +kernel
theorem dX12_open_46 : decode cX12_open 46 = .ok (.ifCond .ne 7, 3) := by decide +kernel
theorem dX12_open_49 : decode cX12_open 49 = .ok (.iconst (-1), 1) := by decide +kernel
theorem dX12_open_50 : decode cX12_open 50 = .ok (.goto 18, 3) := by decide +kernel
theorem dX12_open_53 : decode cX12_open 53 = .ok (.aload_n 0, 1) := by decide +kernel
theorem dX12_open_54 : decode cX12_open 54 = .ok (.getfield 51, 3) := by decide +kernel
theorem dX12_open_57 : decode cX12_open 57 = .ok (.getfield 200, 3) := by decide +kernel
theorem dX12_open_60 : decode cX12_open 60 = .ok (.iconst 4, 1) := by decide +kernel
theorem dX12_open_61 : decode cX12_open 61 = .ok (.iload_n 1, 1) := by decide +kernel
theorem dX12_open_62 : decode cX12_open 62 = .ok (.iadd, 1) := by decide +kernel
theorem dX12_open_63 : decode cX12_open 63 = .ok (.iload 4, 2) := by decide +kernel
theorem dX12_open_65 : decode cX12_open 65 = .ok (.invokevirtual 204, 3) := by decide +kernel
theorem dX12_open_68 : decode cX12_open 68 = .ok (.ireturn, 1) := by decide +kernel
theorem dX12_set_0 : decode cX12_set 0 = .ok (.aload_n 0, 1) := by decide +kernel
theorem dX12_set_1 : decode cX12_set 1 = .ok (.getfield 87, 3) := by decide +kernel
theorem dX12_set_4 : decode cX12_set 4 = .ok (.iconst (-1), 1) := by decide +kernel
theorem dX12_set_5 : decode cX12_set 5 = .ok (.if_icmp .eq 21, 3) := by decide +kernel
theorem dX12_set_8 : decode cX12_set 8 = .ok (.iload_n 1, 1) := by decide +kernel
theorem dX12_set_9 : decode cX12_set 9 = .ok (.ifCond .lt 17, 3) := by decide +kernel
theorem dX12_set_12 : decode cX12_set 12 = .ok (.iload_n 1, 1) := by decide +kernel
theorem dX12_set_13 : decode cX12_set 13 = .ok (.iconst 3, 1) := by decide +kernel
theorem dX12_set_14 : decode cX12_set 14 = .ok (.if_icmp .gt 12, 3) := by decide +kernel
theorem dX12_set_17 : decode cX12_set 17 = .ok (.aload_n 0, 1) := by decide +kernel
theorem dX12_set_18 : decode cX12_set 18 = .ok (.iload_n 1, 1) := by decide +kernel
theorem dX12_set_19 : decode cX12_set 19 = .ok (.iload_n 2, 1) := by decide +kernel
theorem dX12_set_20 : decode cX12_set 20 = .ok (.invokevirtual 209, 3) := by decide +kernel
theorem dX12_set_23 : decode cX12_set 23 = .ok (.ifCond .ne 5, 3) := by decide +kernel
theorem dX12_set_26 : decode cX12_set 26 = .ok (.iconst (-1), 1) := by decide +kernel
theorem dX12_set_27 : decode cX12_set 27 = .ok (.ireturn, 1) := by decide +kernel
theorem dX12_set_28 : decode cX12_set 28 = .ok (.aload_n 0, 1) := by decide +kernel
theorem dX12_set_29 : decode cX12_set 29 = .ok (.getfield 51, 3) := by decide +kernel
theorem dX12_set_32 : decode cX12_set 32 = .ok (.getfield 200, 3) := by decide +kernel
theorem dX12_set_35 : decode cX12_set 35 = .ok (.getfield 212, 3) := by decide +kernel
theorem dX12_set_38 : decode cX12_set 38 = .ok (.iload_n 1, 1) := by decide +kernel
theorem dX12_set_39 : decode cX12_set 39 = .ok (.iaload, 1) := by decide +kernel
theorem dX12_set_40 : decode cX12_set 40 = .ok (.iload_n 2, 1) := by decide +kernel
theorem dX12_set_41 : decode cX12_set 41 = .ok (.if_icmp .ne 7, 3) := by decide +kernel
theorem dX12_set_44 : decode cX12_set 44 = .ok (.iconst (-1), 1) := by decide +kernel
theorem dX12_set_45 : decode cX12_set 45 = .ok (.goto 15, 3) := by decide +kernel
theorem dX12_set_48 : decode cX12_set 48 = .ok (.aload_n 0, 1) := by decide +kernel
theorem dX12_set_49 : decode cX12_set 49 = .ok (.getfield 51, 3) := by decide +kernel
theorem dX12_set_52 : decode cX12_set 52 = .ok (.getfield 200, 3) := by decide +kernel
theorem dX12_set_55 : decode cX12_set 55 = .ok (.iload_n 1, 1) := by decide +kernel
theorem dX12_set_56 : decode cX12_set 56 = .ok (.iload_n 2, 1) := by decide +kernel
theorem dX12_set_57 : decode cX12_set 57 = .ok (.invokevirtual 204, 3) := by decide +kernel
theorem dX12_set_60 : decode cX12_set 60 = .ok (.ireturn, 1) := by decide +kernel
theorem dX12_undo_0 : decode cX12_undo 0 = .ok (.aload_n 0, 1) := by decide +kernel
theorem dX12_undo_1 : decode cX12_undo 1 = .ok (.getfield 51, 3) := by decide +kernel
theorem dX12_undo_4 : decode cX12_undo 4 = .ok (.getfield 200, 3) := by decide +kernel
theorem dX12_undo_7 : decode cX12_undo 7 = .ok (.invokevirtual 215, 3) := by decide +kernel
theorem dX12_undo_10 : decode cX12_undo 10 = .ok (.ireturn, 1) := by decide +kernel
theorem dX12_odds_0 : decode cX12_odds 0 = .ok (.aload_n 0, 1) := by decide +kernel
theorem dX12_odds_1 : decode cX12_odds 1 = .ok (.getfield 51, 3) := by decide +kernel
theorem dX12_odds_4 : decode cX12_odds 4 = .ok (.getfield 118, 3) := by decide +kernel
theorem dX12_odds_7 : decode cX12_odds 7 = .ok (.iload_n 1, 1) := by decide +kernel
theorem dX12_odds_8 : decode cX12_odds 8 = .ok (.invokevirtual 125, 3) := by decide +kernel
theorem dX12_odds_11 : decode cX12_odds 11 = .ok (.ifCond .eq 15, 3) := by decide +kernel
theorem dX12_odds_14 : decode cX12_odds 14 = .ok (.aload_n 0, 1) := by decide +kernel
theorem dX12_odds_15 : decode cX12_odds 15 = .ok (.getfield 51, 3) := by decide +kernel
theorem dX12_odds_18 : decode cX12_odds 18 = .ok (.iload_n 1, 1) := by decide +kernel
theorem dX12_odds_19 : decode cX12_odds 19 = .ok (.iconst 0, 1) := by decide +kernel
theorem dX12_odds_20 : decode cX12_odds 20 = .ok (.invokevirtual 219, 3) := by decide +kernel
theorem dX12_odds_23 : decode cX12_odds 23 = .ok (.goto 4, 3) := by decide +kernel
theorem dX12_odds_26 : decode cX12_odds 26 = .ok (.iconst (-1), 1) := by decide +kernel
theorem dX12_odds_27 : decode cX12_odds 27 = .ok (.ireturn, 1) := by decide +kernel
theorem dX12_mean_0 : decode cX12_mean 0 = .ok (.aload_n 0, 1) := by decide +kernel
theorem dX12_mean_1 : decode cX12_mean 1 = .ok (.getfield 87, 3) := by decide +kernel
theorem dX12_mean_4 : decode cX12_mean 4 = .ok (.iconst (-1), 1) := by decide +kernel
theorem dX12_mean_5 : decode cX12_mean 5 = .ok (.if_icmp .eq 12, 3) := by decide +kernel
theorem dX12_mean_8 : decode cX12_mean 8 = .ok (.iload_n 1, 1) := by decide +kernel
theorem dX12_mean_9 : decode cX12_mean 9 = .ok (.ifCond .lt 8, 3) := by decide +kernel
theorem dX12_mean_12 : decode cX12_mean 12 = .ok (.iload_n 1, 1) := by decide +kernel
theorem dX12_mean_13 : decode cX12_mean 13 = .ok (.iconst 3, 1) := by decide +kernel
theorem dX12_mean_14 : decode cX12_mean 14 = .ok (.if_icmp .le 6, 3) := by decide +kernel
theorem dX12_mean_17 : decode cX12_mean 17 = .ok (.ldc 223, 2) := by decide +kernel
theorem dX12_mean_19 : decode cX12_mean 19 = .ok (.ireturn, 1) := by decide +kernel
theorem dX12_mean_20 : decode cX12_mean 20 = .ok (.aload_n 0, 1) := by decide +kernel
theorem dX12_mean_21 : decode cX12_mean 21 = .ok (.getfield 51, 3) := by decide +kernel
theorem dX12_mean_24 : decode cX12_mean 24 = .ok (.iload_n 1, 1) := by decide +kernel
theorem dX12_mean_25 : decode cX12_mean 25 = .ok (.invokevirtual 224, 3) := by decide +kernel
theorem dX12_mean_28 : decode cX12_mean 28 = .ok (.ireturn, 1) := by decide +kernel
theorem dX12_worth_0 : decode cX12_worth 0 = .ok (.aload_n 0, 1) := by decide +kernel
theorem dX12_worth_1 : decode cX12_worth 1 = .ok (.getfield 51, 3) := by decide +kernel
theorem dX12_worth_4 : decode cX12_worth 4 = .ok (.getfield 118, 3) := by decide +kernel
theorem dX12_worth_7 : decode cX12_worth 7 = .ok (.iload_n 1, 1) := by decide +kernel
theorem dX12_worth_8 : decode cX12_worth 8 = .ok (.invokevirtual 125, 3) := by decide +kernel
theorem dX12_worth_11 : decode cX12_worth 11 = .ok (.ifCond .eq 14, 3) := by decide +kernel
theorem dX12_worth_14 : decode cX12_worth 14 = .ok (.aload_n 0, 1) := by decide +kernel
theorem dX12_worth_15 : decode cX12_worth 15 = .ok (.getfield 51, 3) := by decide +kernel
theorem dX12_worth_18 : decode cX12_worth 18 = .ok (.iload_n 1, 1) := by decide +kernel
theorem dX12_worth_19 : decode cX12_worth 19 = .ok (.invokevirtual 227, 3) := by decide +kernel
theorem dX12_worth_22 : decode cX12_worth 22 = .ok (.goto 5, 3) := by decide +kernel
theorem dX12_worth_25 : decode cX12_worth 25 = .ok (.ldc 223, 2) := by decide +kernel
theorem dX12_worth_27 : decode cX12_worth 27 = .ok (.ireturn, 1) := by decide +kernel
theorem dX12_value_0 : decode cX12_value 0 = .ok (.iload_n 2, 1) := by decide +kernel
theorem dX12_value_1 : decode cX12_value 1 = .ok (.iconst (-1), 1) := by decide +kernel
theorem dX12_value_2 : decode cX12_value 2 = .ok (.if_icmp .ne 7, 3) := by decide +kernel
theorem dX12_value_5 : decode cX12_value 5 = .ok (.iconst 1, 1) := by decide +kernel
theorem dX12_value_6 : decode cX12_value 6 = .ok (.goto 4, 3) := by decide +kernel
theorem dX12_value_9 : decode cX12_value 9 = .ok (.iconst 0, 1) := by decide +kernel
theorem dX12_value_10 : decode cX12_value 10 = .ok (.istore_n 3, 1) := by decide +kernel
theorem dX12_value_11 : decode cX12_value 11 = .ok (.iload_n 3, 1) := by decide +kernel
theorem dX12_value_12 : decode cX12_value 12 = .ok (.ifCond .eq 20, 3) := by decide +kernel
theorem dX12_value_15 : decode cX12_value 15 = .ok (.aload_n 0, 1) := by decide +kernel
theorem dX12_value_16 : decode cX12_value 16 = .ok (.getfield 51, 3) := by decide +kernel
theorem dX12_value_19 : decode cX12_value 19 = .ok (.getfield 118, 3) := by decide +kernel
theorem dX12_value_22 : decode cX12_value 22 = .ok (.iload_n 1, 1) := by decide +kernel
theorem dX12_value_23 : decode cX12_value 23 = .ok (.invokevirtual 153, 3) := by decide +kernel
theorem dX12_value_26 : decode cX12_value 26 = .ok (.ifCond .ne 24, 3) := by decide +kernel
theorem dX12_value_29 : decode cX12_value 29 = .ok (.goto 18, 3) := by decide +kernel
theorem dX12_value_32 : decode cX12_value 32 = .ok (.aload_n 0, 1) := by decide +kernel
theorem dX12_value_33 : decode cX12_value 33 = .ok (.getfield 51, 3) := by decide +kernel
theorem dX12_value_36 : decode cX12_value 36 = .ok (.getfield 118, 3) := by decide +kernel
theorem dX12_value_39 : decode cX12_value 39 = .ok (.iload_n 1, 1) := by decide +kernel
theorem dX12_value_40 : decode cX12_value 40 = .ok (.iload_n 2, 1) := by decide +kernel
theorem dX12_value_41 : decode cX12_value 41 = .ok (.invokevirtual 179, 3) := by decide +kernel
theorem dX12_value_44 : decode cX12_value 44 = .ok (.ifCond .ne 6, 3) := by decide +kernel
theorem dX12_value_47 : decode cX12_value 47 = .ok (.ldc 223, 2) := by decide +kernel
theorem dX12_value_49 : decode cX12_value 49 = .ok (.ireturn, 1) := by decide +kernel
theorem dX12_value_50 : decode cX12_value 50 = .ok (.aload_n 0, 1) := by decide +kernel
theorem dX12_value_51 : decode cX12_value 51 = .ok (.getfield 60, 3) := by decide +kernel
theorem dX12_value_54 : decode cX12_value 54 = .ok (.invokevirtual 230, 3) := by decide +kernel
theorem dX12_value_57 : decode cX12_value 57 = .ok (.iload_n 3, 1) := by decide +kernel
theorem dX12_value_58 : decode cX12_value 58 = .ok (.ifCond .eq 15, 3) := by decide +kernel
theorem dX12_value_61 : decode cX12_value 61 = .ok (.aload_n 0, 1) := by decide +kernel
theorem dX12_value_62 : decode cX12_value 62 = .ok (.getfield 60, 3) := by decide +kernel
theorem dX12_value_65 : decode cX12_value 65 = .ok (.getfield 233, 3) := by decide +kernel
theorem dX12_value_68 : decode cX12_value 68 = .ok (.iload_n 1, 1) := by decide +kernel
theorem dX12_value_69 : decode cX12_value 69 = .ok (.iaload, 1) := by decide +kernel
theorem dX12_value_70 : decode cX12_value 70 = .ok (.goto 12, 3) := by decide +kernel
theorem dX12_value_73 : decode cX12_value 73 = .ok (.aload_n 0, 1) := by decide +kernel
theorem dX12_value_74 : decode cX12_value 74 = .ok (.getfield 60, 3) := by decide +kernel
theorem dX12_value_77 : decode cX12_value 77 = .ok (.iload_n 1, 1) := by decide +kernel
theorem dX12_value_78 : decode cX12_value 78 = .ok (.iload_n 2, 1) := by decide +kernel
theorem dX12_value_79 : decode cX12_value 79 = .ok (.invokevirtual 236, 3) := by decide +kernel
theorem dX12_value_82 : decode cX12_value 82 = .ok (.ireturn, 1) := by decide +kernel
theorem dX12_advice_0 : decode cX12_advice 0 = .ok (.aload_n 0, 1) := by decide +kernel
theorem dX12_advice_1 : decode cX12_advice 1 = .ok (.getfield 51, 3) := by decide +kernel
theorem dX12_advice_4 : decode cX12_advice 4 = .ok (.getfield 118, 3) := by decide +kernel
theorem dX12_advice_7 : decode cX12_advice 7 = .ok (.iload_n 1, 1) := by decide +kernel
theorem dX12_advice_8 : decode cX12_advice 8 = .ok (.invokevirtual 153, 3) := by decide +kernel
theorem dX12_advice_11 : decode cX12_advice 11 = .ok (.ifCond .ne 5, 3) := by decide +kernel
theorem dX12_advice_14 : decode cX12_advice 14 = .ok (.iconst (-1), 1) := by decide +kernel
theorem dX12_advice_15 : decode cX12_advice 15 = .ok (.ireturn, 1) := by decide +kernel
theorem dX12_advice_16 : decode cX12_advice 16 = .ok (.aload_n 0, 1) := by decide +kernel
theorem dX12_advice_17 : decode cX12_advice 17 = .ok (.getfield 60, 3) := by decide +kernel
theorem dX12_advice_20 : decode cX12_advice 20 = .ok (.invokevirtual 230, 3) := by decide +kernel
theorem dX12_advice_23 : decode cX12_advice 23 = .ok (.aload_n 0, 1) := by decide +kernel
theorem dX12_advice_24 : decode cX12_advice 24 = .ok (.getfield 60, 3) := by decide +kernel
theorem dX12_advice_27 : decode cX12_advice 27 = .ok (.iload_n 1, 1) := by decide +kernel
theorem dX12_advice_28 : decode cX12_advice 28 = .ok (.invokevirtual 238, 3) := by decide +kernel
theorem dX12_advice_31 : decode cX12_advice 31 = .ok (.ireturn, 1) := by decide +kernel
theorem dX12_regret_0 : decode cX12_regret 0 = .ok (.aload_n 0, 1) := by decide +kernel
theorem dX12_regret_1 : decode cX12_regret 1 = .ok (.getfield 51, 3) := by decide +kernel
theorem dX12_regret_4 : decode cX12_regret 4 = .ok (.getfield 118, 3) := by decide +kernel
theorem dX12_regret_7 : decode cX12_regret 7 = .ok (.iload_n 1, 1) := by decide +kernel
theorem dX12_regret_8 : decode cX12_regret 8 = .ok (.invokevirtual 125, 3) := by decide +kernel
theorem dX12_regret_11 : decode cX12_regret 11 = .ok (.ifCond .eq 17, 3) := by decide +kernel
theorem dX12_regret_14 : decode cX12_regret 14 = .ok (.aload_n 0, 1) := by decide +kernel
theorem dX12_regret_15 : decode cX12_regret 15 = .ok (.getfield 51, 3) := by decide +kernel
theorem dX12_regret_18 : decode cX12_regret 18 = .ok (.getfield 118, 3) := by decide +kernel
theorem dX12_regret_21 : decode cX12_regret 21 = .ok (.iload_n 2, 1) := by decide +kernel
theorem dX12_regret_22 : decode cX12_regret 22 = .ok (.invokevirtual 153, 3) := by decide +kernel
theorem dX12_regret_25 : decode cX12_regret 25 = .ok (.ifCond .ne 5, 3) := by decide +kernel
theorem dX12_regret_28 : decode cX12_regret 28 = .ok (.iconst (-1), 1) := by decide +kernel
theorem dX12_regret_29 : decode cX12_regret 29 = .ok (.ireturn, 1) := by decide +kernel
theorem dX12_regret_30 : decode cX12_regret 30 = .ok (.aload_n 0, 1) := by decide +kernel
theorem dX12_regret_31 : decode cX12_regret 31 = .ok (.getfield 51, 3) := by decide +kernel
theorem dX12_regret_34 : decode cX12_regret 34 = .ok (.getfield 118, 3) := by decide +kernel
theorem dX12_regret_37 : decode cX12_regret 37 = .ok (.iload_n 1, 1) := by decide +kernel
theorem dX12_regret_38 : decode cX12_regret 38 = .ok (.iload_n 2, 1) := by decide +kernel
theorem dX12_regret_39 : decode cX12_regret 39 = .ok (.invokevirtual 241, 3) := by decide +kernel
theorem dX12_regret_42 : decode cX12_regret 42 = .ok (.istore_n 3, 1) := by decide +kernel
theorem dX12_regret_43 : decode cX12_regret 43 = .ok (.iload_n 3, 1) := by decide +kernel
theorem dX12_regret_44 : decode cX12_regret 44 = .ok (.iconst (-1), 1) := by decide +kernel
theorem dX12_regret_45 : decode cX12_regret 45 = .ok (.if_icmp .ne 5, 3) := by decide +kernel
theorem dX12_regret_48 : decode cX12_regret 48 = .ok (.iconst (-1), 1) := by decide +kernel
theorem dX12_regret_49 : decode cX12_regret 49 = .ok (.ireturn, 1) := by decide +kernel
theorem dX12_regret_50 : decode cX12_regret 50 = .ok (.aload_n 0, 1) := by decide +kernel
theorem dX12_regret_51 : decode cX12_regret 51 = .ok (.getfield 60, 3) := by decide +kernel
theorem dX12_regret_54 : decode cX12_regret 54 = .ok (.invokevirtual 230, 3) := by decide +kernel
theorem dX12_regret_57 : decode cX12_regret 57 = .ok (.aload_n 0, 1) := by decide +kernel
theorem dX12_regret_58 : decode cX12_regret 58 = .ok (.getfield 60, 3) := by decide +kernel
theorem dX12_regret_61 : decode cX12_regret 61 = .ok (.iload_n 1, 1) := by decide +kernel
theorem dX12_regret_62 : decode cX12_regret 62 = .ok (.iload_n 3, 1) := by decide +kernel
theorem dX12_regret_63 : decode cX12_regret 63 = .ok (.invokevirtual 244, 3) := by decide +kernel
theorem dX12_regret_66 : decode cX12_regret 66 = .ok (.ireturn, 1) := by decide +kernel
theorem dX12_sore_0 : decode cX12_sore 0 = .ok (.aload_n 0, 1) := by decide +kernel
theorem dX12_sore_1 : decode cX12_sore 1 = .ok (.getfield 51, 3) := by decide +kernel
theorem dX12_sore_4 : decode cX12_sore 4 = .ok (.getfield 118, 3) := by decide +kernel
theorem dX12_sore_7 : decode cX12_sore 7 = .ok (.iload_n 1, 1) := by decide +kernel
theorem dX12_sore_8 : decode cX12_sore 8 = .ok (.invokevirtual 125, 3) := by decide +kernel
theorem dX12_sore_11 : decode cX12_sore 11 = .ok (.ifCond .eq 12, 3) := by decide +kernel
theorem dX12_sore_14 : decode cX12_sore 14 = .ok (.iload_n 2, 1) := by decide +kernel
theorem dX12_sore_15 : decode cX12_sore 15 = .ok (.ifCond .lt 8, 3) := by decide +kernel
theorem dX12_sore_18 : decode cX12_sore 18 = .ok (.iload_n 2, 1) := by decide +kernel
theorem dX12_sore_19 : decode cX12_sore 19 = .ok (.iconst 1, 1) := by decide +kernel
theorem dX12_sore_20 : decode cX12_sore 20 = .ok (.if_icmp .le 6, 3) := by decide +kernel
theorem dX12_sore_23 : decode cX12_sore 23 = .ok (.ldc 223, 2) := by decide +kernel
theorem dX12_sore_25 : decode cX12_sore 25 = .ok (.ireturn, 1) := by decide +kernel
theorem dX12_sore_26 : decode cX12_sore 26 = .ok (.aload_n 0, 1) := by decide +kernel
theorem dX12_sore_27 : decode cX12_sore 27 = .ok (.getfield 60, 3) := by decide +kernel
theorem dX12_sore_30 : decode cX12_sore 30 = .ok (.invokevirtual 230, 3) := by decide +kernel
theorem dX12_sore_33 : decode cX12_sore 33 = .ok (.iload_n 2, 1) := by decide +kernel
theorem dX12_sore_34 : decode cX12_sore 34 = .ok (.ifCond .ne 14, 3) := by decide +kernel
theorem dX12_sore_37 : decode cX12_sore 37 = .ok (.aload_n 0, 1) := by decide +kernel
theorem dX12_sore_38 : decode cX12_sore 38 = .ok (.getfield 60, 3) := by decide +kernel
theorem dX12_sore_41 : decode cX12_sore 41 = .ok (.iload_n 1, 1) := by decide +kernel
theorem dX12_sore_42 : decode cX12_sore 42 = .ok (.invokevirtual 247, 3) := by decide +kernel
theorem dX12_sore_45 : decode cX12_sore 45 = .ok (.goto 11, 3) := by decide +kernel
theorem dX12_sore_48 : decode cX12_sore 48 = .ok (.aload_n 0, 1) := by decide +kernel
theorem dX12_sore_49 : decode cX12_sore 49 = .ok (.getfield 60, 3) := by decide +kernel
theorem dX12_sore_52 : decode cX12_sore 52 = .ok (.iload_n 1, 1) := by decide +kernel
theorem dX12_sore_53 : decode cX12_sore 53 = .ok (.invokevirtual 250, 3) := by decide +kernel
theorem dX12_sore_56 : decode cX12_sore 56 = .ok (.ireturn, 1) := by decide +kernel
theorem dX12_apology_0 : decode cX12_apology 0 = .ok (.aload_n 0, 1) := by decide +kernel
theorem dX12_apology_1 : decode cX12_apology 1 = .ok (.iload_n 1, 1) := by decide +kernel
theorem dX12_apology_2 : decode cX12_apology 2 = .ok (.iload_n 2, 1) := by decide +kernel
theorem dX12_apology_3 : decode cX12_apology 3 = .ok (.invokevirtual 194, 3) := by decide +kernel
theorem dX12_apology_6 : decode cX12_apology 6 = .ok (.ifCond .ne 6, 3) := by decide +kernel
theorem dX12_apology_9 : decode cX12_apology 9 = .ok (.ldc 223, 2) := by decide +kernel
theorem dX12_apology_11 : decode cX12_apology 11 = .ok (.ireturn, 1) := by decide +kernel
theorem dX12_apology_12 : decode cX12_apology 12 = .ok (.aload_n 0, 1) := by decide +kernel
theorem dX12_apology_13 : decode cX12_apology 13 = .ok (.getfield 60, 3) := by decide +kernel
theorem dX12_apology_16 : decode cX12_apology 16 = .ok (.invokevirtual 230, 3) := by decide +kernel
theorem dX12_apology_19 : decode cX12_apology 19 = .ok (.aload_n 0, 1) := by decide +kernel
theorem dX12_apology_20 : decode cX12_apology 20 = .ok (.getfield 60, 3) := by decide +kernel
theorem dX12_apology_23 : decode cX12_apology 23 = .ok (.iload_n 1, 1) := by decide +kernel
theorem dX12_apology_24 : decode cX12_apology 24 = .ok (.iload_n 2, 1) := by decide +kernel
theorem dX12_apology_25 : decode cX12_apology 25 = .ok (.invokevirtual 253, 3) := by decide +kernel
theorem dX12_apology_28 : decode cX12_apology 28 = .ok (.ireturn, 1) := by decide +kernel
theorem dX12_share_0 : decode cX12_share 0 = .ok (.aload_n 0, 1) := by decide +kernel
theorem dX12_share_1 : decode cX12_share 1 = .ok (.getfield 51, 3) := by decide +kernel
theorem dX12_share_4 : decode cX12_share 4 = .ok (.getfield 118, 3) := by decide +kernel
theorem dX12_share_7 : decode cX12_share 7 = .ok (.iload_n 1, 1) := by decide +kernel
theorem dX12_share_8 : decode cX12_share 8 = .ok (.invokevirtual 125, 3) := by decide +kernel
theorem dX12_share_11 : decode cX12_share 11 = .ok (.ifCond .eq 22, 3) := by decide +kernel
theorem dX12_share_14 : decode cX12_share 14 = .ok (.aload_n 0, 1) := by decide +kernel
theorem dX12_share_15 : decode cX12_share 15 = .ok (.getfield 51, 3) := by decide +kernel
theorem dX12_share_18 : decode cX12_share 18 = .ok (.iload_n 1, 1) := by decide +kernel
theorem dX12_share_19 : decode cX12_share 19 = .ok (.invokevirtual 136, 3) := by decide +kernel
theorem dX12_share_22 : decode cX12_share 22 = .ok (.ifCond .eq 11, 3) := by decide +kernel
theorem dX12_share_25 : decode cX12_share 25 = .ok (.aload_n 0, 1) := by decide +kernel
theorem dX12_share_26 : decode cX12_share 26 = .ok (.iload_n 2, 1) := by decide +kernel
theorem dX12_share_27 : decode cX12_share 27 = .ok (.invokevirtual 256, 3) := by decide +kernel
theorem dX12_share_30 : decode cX12_share 30 = .ok (.ifCond .ne 5, 3) := by decide +kernel
theorem dX12_share_33 : decode cX12_share 33 = .ok (.iconst (-1), 1) := by decide +kernel
theorem dX12_share_34 : decode cX12_share 34 = .ok (.ireturn, 1) := by decide +kernel
theorem dX12_share_35 : decode cX12_share 35 = .ok (.aload_n 0, 1) := by decide +kernel
theorem dX12_share_36 : decode cX12_share 36 = .ok (.getfield 69, 3) := by decide +kernel
theorem dX12_share_39 : decode cX12_share 39 = .ok (.iload_n 1, 1) := by decide +kernel
theorem dX12_share_40 : decode cX12_share 40 = .ok (.iload_n 2, 1) := by decide +kernel
theorem dX12_share_41 : decode cX12_share 41 = .ok (.invokevirtual 259, 3) := by decide +kernel
theorem dX12_share_44 : decode cX12_share 44 = .ok (.ireturn, 1) := by decide +kernel
theorem dX12_demand_0 : decode cX12_demand 0 = .ok (.aload_n 0, 1) := by decide +kernel
theorem dX12_demand_1 : decode cX12_demand 1 = .ok (.getfield 51, 3) := by decide +kernel
theorem dX12_demand_4 : decode cX12_demand 4 = .ok (.getfield 118, 3) := by decide +kernel
theorem dX12_demand_7 : decode cX12_demand 7 = .ok (.iload_n 1, 1) := by decide +kernel
theorem dX12_demand_8 : decode cX12_demand 8 = .ok (.invokevirtual 125, 3) := by decide +kernel
theorem dX12_demand_11 : decode cX12_demand 11 = .ok (.ifCond .eq 14, 3) := by decide +kernel
theorem dX12_demand_14 : decode cX12_demand 14 = .ok (.aload_n 0, 1) := by decide +kernel
theorem dX12_demand_15 : decode cX12_demand 15 = .ok (.getfield 51, 3) := by decide +kernel
theorem dX12_demand_18 : decode cX12_demand 18 = .ok (.iload_n 1, 1) := by decide +kernel
theorem dX12_demand_19 : decode cX12_demand 19 = .ok (.invokevirtual 136, 3) := by decide +kernel
theorem dX12_demand_22 : decode cX12_demand 22 = .ok (.ifCond .ne 5, 3) := by decide +kernel
theorem dX12_demand_25 : decode cX12_demand 25 = .ok (.iconst (-1), 1) := by decide +kernel
theorem dX12_demand_26 : decode cX12_demand 26 = .ok (.ireturn, 1) := by decide +kernel
theorem dX12_demand_27 : decode cX12_demand 27 = .ok (.aload_n 0, 1) := by decide +kernel
theorem dX12_demand_28 : decode cX12_demand 28 = .ok (.getfield 69, 3) := by decide +kernel
theorem dX12_demand_31 : decode cX12_demand 31 = .ok (.iload_n 1, 1) := by decide +kernel
theorem dX12_demand_32 : decode cX12_demand 32 = .ok (.invokevirtual 262, 3) := by decide +kernel
theorem dX12_demand_35 : decode cX12_demand 35 = .ok (.ireturn, 1) := by decide +kernel
theorem dX12_terms_0 : decode cX12_terms 0 = .ok (.aload_n 0, 1) := by decide +kernel
theorem dX12_terms_1 : decode cX12_terms 1 = .ok (.getfield 87, 3) := by decide +kernel
theorem dX12_terms_4 : decode cX12_terms 4 = .ok (.iconst (-1), 1) := by decide +kernel
theorem dX12_terms_5 : decode cX12_terms 5 = .ok (.if_icmp .eq 11, 3) := by decide +kernel
theorem dX12_terms_8 : decode cX12_terms 8 = .ok (.aload_n 0, 1) := by decide +kernel
theorem dX12_terms_9 : decode cX12_terms 9 = .ok (.iload_n 1, 1) := by decide +kernel
theorem dX12_terms_10 : decode cX12_terms 10 = .ok (.invokevirtual 256, 3) := by decide +kernel
theorem dX12_terms_13 : decode cX12_terms 13 = .ok (.ifCond .ne 8, 3) := by decide +kernel
theorem dX12_terms_16 : decode cX12_terms 16 = .ok (.ldc 223, 2) := by decide +kernel
theorem dX12_terms_18 : decode cX12_terms 18 = .ok (.goto 12, 3) := by decide +kernel
theorem dX12_terms_21 : decode cX12_terms 21 = .ok (.iload_n 1, 1) := by decide +kernel
theorem dX12_terms_22 : decode cX12_terms 22 = .ok (.aload_n 0, 1) := by decide +kernel
theorem dX12_terms_23 : decode cX12_terms 23 = .ok (.getfield 69, 3) := by decide +kernel
theorem dX12_terms_26 : decode cX12_terms 26 = .ok (.invokevirtual 265, 3) := by decide +kernel
theorem dX12_terms_29 : decode cX12_terms 29 = .ok (.isub, 1) := by decide +kernel
theorem dX12_terms_30 : decode cX12_terms 30 = .ok (.ireturn, 1) := by decide +kernel
theorem dX12_away_0 : decode cX12_away 0 = .ok (.aload_n 0, 1) := by decide +kernel
theorem dX12_away_1 : decode cX12_away 1 = .ok (.getfield 87, 3) := by decide +kernel
theorem dX12_away_4 : decode cX12_away 4 = .ok (.iconst (-1), 1) := by decide +kernel
theorem dX12_away_5 : decode cX12_away 5 = .ok (.if_icmp .eq 11, 3) := by decide +kernel
theorem dX12_away_8 : decode cX12_away 8 = .ok (.aload_n 0, 1) := by decide +kernel
theorem dX12_away_9 : decode cX12_away 9 = .ok (.iload_n 1, 1) := by decide +kernel
theorem dX12_away_10 : decode cX12_away 10 = .ok (.invokevirtual 256, 3) := by decide +kernel
theorem dX12_away_13 : decode cX12_away 13 = .ok (.ifCond .ne 7, 3) := by decide +kernel
theorem dX12_away_16 : decode cX12_away 16 = .ok (.iconst (-1), 1) := by decide +kernel
theorem dX12_away_17 : decode cX12_away 17 = .ok (.goto 11, 3) := by decide +kernel
theorem dX12_away_20 : decode cX12_away 20 = .ok (.aload_n 0, 1) := by decide +kernel
theorem dX12_away_21 : decode cX12_away 21 = .ok (.getfield 69, 3) := by decide +kernel
theorem dX12_away_24 : decode cX12_away 24 = .ok (.iload_n 1, 1) := by decide +kernel
theorem dX12_away_25 : decode cX12_away 25 = .ok (.invokevirtual 268, 3) := by decide +kernel
theorem dX12_away_28 : decode cX12_away 28 = .ok (.ireturn, 1) := by decide +kernel
theorem dX12_elected_0 : decode cX12_elected 0 = .ok (.aload_n 0, 1) := by decide +kernel
theorem dX12_elected_1 : decode cX12_elected 1 = .ok (.getfield 87, 3) := by decide +kernel
theorem dX12_elected_4 : decode cX12_elected 4 = .ok (.iconst (-1), 1) := by decide +kernel
theorem dX12_elected_5 : decode cX12_elected 5 = .ok (.if_icmp .eq 19, 3) := by decide +kernel
theorem dX12_elected_8 : decode cX12_elected 8 = .ok (.aload_n 0, 1) := by decide +kernel
theorem dX12_elected_9 : decode cX12_elected 9 = .ok (.getfield 109, 3) := by decide +kernel
theorem dX12_elected_12 : decode cX12_elected 12 = .ok (.ifCond .eq 12, 3) := by decide +kernel
theorem dX12_elected_15 : decode cX12_elected 15 = .ok (.iload_n 1, 1) := by decide +kernel
theorem dX12_elected_16 : decode cX12_elected 16 = .ok (.ifCond .lt 8, 3) := by decide +kernel
theorem dX12_elected_19 : decode cX12_elected 19 = .ok (.iload_n 1, 1) := by decide +kernel
theorem dX12_elected_20 : decode cX12_elected 20 = .ok (.iconst 1, 1) := by decide +kernel
theorem dX12_elected_21 : decode cX12_elected 21 = .ok (.if_icmp .le 5, 3) := by decide +kernel
theorem dX12_elected_24 : decode cX12_elected 24 = .ok (.iconst (-1), 1) := by decide +kernel
theorem dX12_elected_25 : decode cX12_elected 25 = .ok (.ireturn, 1) := by decide +kernel
theorem dX12_elected_26 : decode cX12_elected 26 = .ok (.aload_n 0, 1) := by decide +kernel
theorem dX12_elected_27 : decode cX12_elected 27 = .ok (.getfield 69, 3) := by decide +kernel
theorem dX12_elected_30 : decode cX12_elected 30 = .ok (.aload_n 0, 1) := by decide +kernel
theorem dX12_elected_31 : decode cX12_elected 31 = .ok (.getfield 109, 3) := by decide +kernel
theorem dX12_elected_34 : decode cX12_elected 34 = .ok (.iload_n 1, 1) := by decide +kernel
theorem dX12_elected_35 : decode cX12_elected 35 = .ok (.invokevirtual 271, 3) := by decide +kernel
theorem dX12_elected_38 : decode cX12_elected 38 = .ok (.ireturn, 1) := by decide +kernel
theorem dX12_duel_0 : decode cX12_duel 0 = .ok (.aload_n 0, 1) := by decide +kernel
theorem dX12_duel_1 : decode cX12_duel 1 = .ok (.getfield 87, 3) := by decide +kernel
theorem dX12_duel_4 : decode cX12_duel 4 = .ok (.iconst (-1), 1) := by decide +kernel
theorem dX12_duel_5 : decode cX12_duel 5 = .ok (.if_icmp .eq 19, 3) := by decide +kernel
theorem dX12_duel_8 : decode cX12_duel 8 = .ok (.aload_n 0, 1) := by decide +kernel
theorem dX12_duel_9 : decode cX12_duel 9 = .ok (.iload_n 1, 1) := by decide +kernel
theorem dX12_duel_10 : decode cX12_duel 10 = .ok (.invokevirtual 274, 3) := by decide +kernel
theorem dX12_duel_13 : decode cX12_duel 13 = .ok (.ifCond .eq 11, 3) := by decide +kernel
theorem dX12_duel_16 : decode cX12_duel 16 = .ok (.aload_n 0, 1) := by decide +kernel
theorem dX12_duel_17 : decode cX12_duel 17 = .ok (.iload_n 2, 1) := by decide +kernel
theorem dX12_duel_18 : decode cX12_duel 18 = .ok (.invokevirtual 274, 3) := by decide +kernel
theorem dX12_duel_21 : decode cX12_duel 21 = .ok (.ifCond .ne 6, 3) := by decide +kernel
theorem dX12_duel_24 : decode cX12_duel 24 = .ok (.ldc 223, 2) := by decide +kernel
theorem dX12_duel_26 : decode cX12_duel 26 = .ok (.ireturn, 1) := by decide +kernel
theorem dX12_duel_27 : decode cX12_duel 27 = .ok (.aload_n 0, 1) := by decide +kernel
theorem dX12_duel_28 : decode cX12_duel 28 = .ok (.getfield 69, 3) := by decide +kernel
theorem dX12_duel_31 : decode cX12_duel 31 = .ok (.aload_n 0, 1) := by decide +kernel
theorem dX12_duel_32 : decode cX12_duel 32 = .ok (.getfield 109, 3) := by decide +kernel
theorem dX12_duel_35 : decode cX12_duel 35 = .ok (.invokevirtual 277, 3) := by decide +kernel
theorem dX12_duel_38 : decode cX12_duel 38 = .ok (.aload_n 0, 1) := by decide +kernel
theorem dX12_duel_39 : decode cX12_duel 39 = .ok (.getfield 69, 3) := by decide +kernel
theorem dX12_duel_42 : decode cX12_duel 42 = .ok (.iload_n 1, 1) := by decide +kernel
theorem dX12_duel_43 : decode cX12_duel 43 = .ok (.iload_n 2, 1) := by decide +kernel
theorem dX12_duel_44 : decode cX12_duel 44 = .ok (.invokevirtual 280, 3) := by decide +kernel
theorem dX12_duel_47 : decode cX12_duel 47 = .ok (.ireturn, 1) := by decide +kernel
theorem dX12_beats_0 : decode cX12_beats 0 = .ok (.aload_n 0, 1) := by decide +kernel
theorem dX12_beats_1 : decode cX12_beats 1 = .ok (.getfield 87, 3) := by decide +kernel
theorem dX12_beats_4 : decode cX12_beats 4 = .ok (.iconst (-1), 1) := by decide +kernel
theorem dX12_beats_5 : decode cX12_beats 5 = .ok (.if_icmp .eq 11, 3) := by decide +kernel
theorem dX12_beats_8 : decode cX12_beats 8 = .ok (.aload_n 0, 1) := by decide +kernel
theorem dX12_beats_9 : decode cX12_beats 9 = .ok (.getfield 109, 3) := by decide +kernel
theorem dX12_beats_12 : decode cX12_beats 12 = .ok (.iconst 2, 1) := by decide +kernel
theorem dX12_beats_13 : decode cX12_beats 13 = .ok (.if_icmp .ge 7, 3) := by decide +kernel
theorem dX12_beats_16 : decode cX12_beats 16 = .ok (.iconst (-1), 1) := by decide +kernel
theorem dX12_beats_17 : decode cX12_beats 17 = .ok (.goto 14, 3) := by decide +kernel
theorem dX12_beats_20 : decode cX12_beats 20 = .ok (.aload_n 0, 1) := by decide +kernel
theorem dX12_beats_21 : decode cX12_beats 21 = .ok (.getfield 69, 3) := by decide +kernel
theorem dX12_beats_24 : decode cX12_beats 24 = .ok (.aload_n 0, 1) := by decide +kernel
theorem dX12_beats_25 : decode cX12_beats 25 = .ok (.getfield 109, 3) := by decide +kernel
theorem dX12_beats_28 : decode cX12_beats 28 = .ok (.invokevirtual 282, 3) := by decide +kernel
theorem dX12_beats_31 : decode cX12_beats 31 = .ok (.ireturn, 1) := by decide +kernel
theorem dX12_ring_0 : decode cX12_ring 0 = .ok (.aload_n 0, 1) := by decide +kernel
theorem dX12_ring_1 : decode cX12_ring 1 = .ok (.getfield 87, 3) := by decide +kernel
theorem dX12_ring_4 : decode cX12_ring 4 = .ok (.iconst (-1), 1) := by decide +kernel
theorem dX12_ring_5 : decode cX12_ring 5 = .ok (.if_icmp .ne 7, 3) := by decide +kernel
theorem dX12_ring_8 : decode cX12_ring 8 = .ok (.iconst (-1), 1) := by decide +kernel
theorem dX12_ring_9 : decode cX12_ring 9 = .ok (.goto 14, 3) := by decide +kernel
theorem dX12_ring_12 : decode cX12_ring 12 = .ok (.aload_n 0, 1) := by decide +kernel
theorem dX12_ring_13 : decode cX12_ring 13 = .ok (.getfield 69, 3) := by decide +kernel
theorem dX12_ring_16 : decode cX12_ring 16 = .ok (.aload_n 0, 1) := by decide +kernel
theorem dX12_ring_17 : decode cX12_ring 17 = .ok (.getfield 109, 3) := by decide +kernel
theorem dX12_ring_20 : decode cX12_ring 20 = .ok (.invokevirtual 285, 3) := by decide +kernel
theorem dX12_ring_23 : decode cX12_ring 23 = .ok (.ireturn, 1) := by decide +kernel
theorem dX12_all_0 : decode cX12_all 0 = .ok (.aload_n 0, 1) := by decide +kernel
theorem dX12_all_1 : decode cX12_all 1 = .ok (.getfield 87, 3) := by decide +kernel
theorem dX12_all_4 : decode cX12_all 4 = .ok (.iconst (-1), 1) := by decide +kernel
theorem dX12_all_5 : decode cX12_all 5 = .ok (.if_icmp .eq 23, 3) := by decide +kernel
theorem dX12_all_8 : decode cX12_all 8 = .ok (.iload_n 1, 1) := by decide +kernel
theorem dX12_all_9 : decode cX12_all 9 = .ok (.ifCond .lt 19, 3) := by decide +kernel
theorem dX12_all_12 : decode cX12_all 12 = .ok (.iload_n 1, 1) := by decide +kernel
theorem dX12_all_13 : decode cX12_all 13 = .ok (.iconst 1, 1) := by decide +kernel
theorem dX12_all_14 : decode cX12_all 14 = .ok (.aload_n 0, 1) := by decide +kernel
theorem dX12_all_15 : decode cX12_all 15 = .ok (.getfield 51, 3) := by decide +kernel
theorem dX12_all_18 : decode cX12_all 18 = .ok (.getfield 118, 3) := by decide +kernel
theorem dX12_all_21 : decode cX12_all 21 = .ok (.getfield 122, 3) := by decide +kernel
theorem dX12_all_24 : decode cX12_all 24 = .ok (.ishl, 1) := by decide +kernel
theorem dX12_all_25 : decode cX12_all 25 = .ok (.if_icmp .lt 5, 3) := by decide +kernel
theorem dX12_all_28 : decode cX12_all 28 = .ok (.iconst (-1), 1) := by decide +kernel
theorem dX12_all_29 : decode cX12_all 29 = .ok (.ireturn, 1) := by decide +kernel
theorem dX12_all_30 : decode cX12_all 30 = .ok (.aload_n 0, 1) := by decide +kernel
theorem dX12_all_31 : decode cX12_all 31 = .ok (.getfield 76, 3) := by decide +kernel
theorem dX12_all_34 : decode cX12_all 34 = .ok (.iload_n 1, 1) := by decide +kernel
theorem dX12_all_35 : decode cX12_all 35 = .ok (.invokevirtual 288, 3) := by decide +kernel
theorem dX12_all_38 : decode cX12_all 38 = .ok (.ireturn, 1) := by decide +kernel
theorem dX12_telling_0 : decode cX12_telling 0 = .ok (.aload_n 0, 1) := by decide +kernel
theorem dX12_telling_1 : decode cX12_telling 1 = .ok (.getfield 51, 3) := by decide +kernel
theorem dX12_telling_4 : decode cX12_telling 4 = .ok (.getfield 118, 3) := by decide +kernel
theorem dX12_telling_7 : decode cX12_telling 7 = .ok (.iload_n 1, 1) := by decide +kernel
theorem dX12_telling_8 : decode cX12_telling 8 = .ok (.invokevirtual 125, 3) := by decide +kernel
theorem dX12_telling_11 : decode cX12_telling 11 = .ok (.ifCond .eq 14, 3) := by decide +kernel
theorem dX12_telling_14 : decode cX12_telling 14 = .ok (.aload_n 0, 1) := by decide +kernel
theorem dX12_telling_15 : decode cX12_telling 15 = .ok (.getfield 51, 3) := by decide +kernel
theorem dX12_telling_18 : decode cX12_telling 18 = .ok (.iload_n 1, 1) := by decide +kernel
theorem dX12_telling_19 : decode cX12_telling 19 = .ok (.invokevirtual 136, 3) := by decide +kernel
theorem dX12_telling_22 : decode cX12_telling 22 = .ok (.ifCond .ne 5, 3) := by decide +kernel
theorem dX12_telling_25 : decode cX12_telling 25 = .ok (.iconst (-1), 1) := by decide +kernel
theorem dX12_telling_26 : decode cX12_telling 26 = .ok (.ireturn, 1) := by decide +kernel
theorem dX12_telling_27 : decode cX12_telling 27 = .ok (.aload_n 0, 1) := by decide +kernel
theorem dX12_telling_28 : decode cX12_telling 28 = .ok (.getfield 76, 3) := by decide +kernel
theorem dX12_telling_31 : decode cX12_telling 31 = .ok (.iload_n 1, 1) := by decide +kernel
theorem dX12_telling_32 : decode cX12_telling 32 = .ok (.invokevirtual 291, 3) := by decide +kernel
theorem dX12_telling_35 : decode cX12_telling 35 = .ok (.ireturn, 1) := by decide +kernel
theorem dX12_twins_0 : decode cX12_twins 0 = .ok (.aload_n 0, 1) := by decide +kernel
theorem dX12_twins_1 : decode cX12_twins 1 = .ok (.getfield 51, 3) := by decide +kernel
theorem dX12_twins_4 : decode cX12_twins 4 = .ok (.getfield 118, 3) := by decide +kernel
theorem dX12_twins_7 : decode cX12_twins 7 = .ok (.iload_n 1, 1) := by decide +kernel
theorem dX12_twins_8 : decode cX12_twins 8 = .ok (.invokevirtual 125, 3) := by decide +kernel
theorem dX12_twins_11 : decode cX12_twins 11 = .ok (.ifCond .eq 14, 3) := by decide +kernel
theorem dX12_twins_14 : decode cX12_twins 14 = .ok (.aload_n 0, 1) := by decide +kernel
theorem dX12_twins_15 : decode cX12_twins 15 = .ok (.getfield 76, 3) := by decide +kernel
theorem dX12_twins_18 : decode cX12_twins 18 = .ok (.iload_n 1, 1) := by decide +kernel
theorem dX12_twins_19 : decode cX12_twins 19 = .ok (.invokevirtual 294, 3) := by decide +kernel
theorem dX12_twins_22 : decode cX12_twins 22 = .ok (.goto 4, 3) := by decide +kernel
theorem dX12_twins_25 : decode cX12_twins 25 = .ok (.iconst (-1), 1) := by decide +kernel
theorem dX12_twins_26 : decode cX12_twins 26 = .ok (.ireturn, 1) := by decide +kernel
theorem dX12_sentence_0 : decode cX12_sentence 0 = .ok (.aload_n 0, 1) := by decide +kernel
theorem dX12_sentence_1 : decode cX12_sentence 1 = .ok (.getfield 87, 3) := by decide +kernel
theorem dX12_sentence_4 : decode cX12_sentence 4 = .ok (.iconst (-1), 1) := by decide +kernel
theorem dX12_sentence_5 : decode cX12_sentence 5 = .ok (.if_icmp .ne 7, 3) := by decide +kernel
theorem dX12_sentence_8 : decode cX12_sentence 8 = .ok (.iconst (-1), 1) := by decide +kernel
theorem dX12_sentence_9 : decode cX12_sentence 9 = .ok (.goto 10, 3) := by decide +kernel
theorem dX12_sentence_12 : decode cX12_sentence 12 = .ok (.aload_n 0, 1) := by decide +kernel
theorem dX12_sentence_13 : decode cX12_sentence 13 = .ok (.getfield 76, 3) := by decide +kernel
theorem dX12_sentence_16 : decode cX12_sentence 16 = .ok (.invokevirtual 297, 3) := by decide +kernel
theorem dX12_sentence_19 : decode cX12_sentence 19 = .ok (.ireturn, 1) := by decide +kernel
theorem dX12_leads_0 : decode cX12_leads 0 = .ok (.aload_n 0, 1) := by decide +kernel
theorem dX12_leads_1 : decode cX12_leads 1 = .ok (.getfield 87, 3) := by decide +kernel
theorem dX12_leads_4 : decode cX12_leads 4 = .ok (.iconst (-1), 1) := by decide +kernel
theorem dX12_leads_5 : decode cX12_leads 5 = .ok (.if_icmp .eq 23, 3) := by decide +kernel
theorem dX12_leads_8 : decode cX12_leads 8 = .ok (.iload_n 1, 1) := by decide +kernel
theorem dX12_leads_9 : decode cX12_leads 9 = .ok (.ifCond .lt 19, 3) := by decide +kernel
theorem dX12_leads_12 : decode cX12_leads 12 = .ok (.iload_n 1, 1) := by decide +kernel
theorem dX12_leads_13 : decode cX12_leads 13 = .ok (.bipush 9, 2) := by decide +kernel
theorem dX12_leads_15 : decode cX12_leads 15 = .ok (.if_icmp .gt 13, 3) := by decide +kernel
theorem dX12_leads_18 : decode cX12_leads 18 = .ok (.iload_n 2, 1) := by decide +kernel
theorem dX12_leads_19 : decode cX12_leads 19 = .ok (.ifCond .lt 9, 3) := by decide +kernel
theorem dX12_leads_22 : decode cX12_leads 22 = .ok (.iload_n 2, 1) := by decide +kernel
theorem dX12_leads_23 : decode cX12_leads 23 = .ok (.bipush 9, 2) := by decide +kernel
theorem dX12_leads_25 : decode cX12_leads 25 = .ok (.if_icmp .le 5, 3) := by decide +kernel
theorem dX12_leads_28 : decode cX12_leads 28 = .ok (.iconst (-1), 1) := by decide +kernel
theorem dX12_leads_29 : decode cX12_leads 29 = .ok (.ireturn, 1) := by decide +kernel
theorem dX12_leads_30 : decode cX12_leads 30 = .ok (.aload_n 0, 1) := by decide +kernel
theorem dX12_leads_31 : decode cX12_leads 31 = .ok (.getfield 76, 3) := by decide +kernel
theorem dX12_leads_34 : decode cX12_leads 34 = .ok (.iload_n 1, 1) := by decide +kernel
theorem dX12_leads_35 : decode cX12_leads 35 = .ok (.iload_n 2, 1) := by decide +kernel
theorem dX12_leads_36 : decode cX12_leads 36 = .ok (.invokevirtual 300, 3) := by decide +kernel
theorem dX12_leads_39 : decode cX12_leads 39 = .ok (.ifCond .eq 7, 3) := by decide +kernel
theorem dX12_leads_42 : decode cX12_leads 42 = .ok (.iconst 1, 1) := by decide +kernel
theorem dX12_leads_43 : decode cX12_leads 43 = .ok (.goto 4, 3) := by decide +kernel
theorem dX12_leads_46 : decode cX12_leads 46 = .ok (.iconst 0, 1) := by decide +kernel
theorem dX12_leads_47 : decode cX12_leads 47 = .ok (.ireturn, 1) := by decide +kernel
theorem dX12_clue_0 : decode cX12_clue 0 = .ok (.aload_n 0, 1) := by decide +kernel
theorem dX12_clue_1 : decode cX12_clue 1 = .ok (.getfield 87, 3) := by decide +kernel
theorem dX12_clue_4 : decode cX12_clue 4 = .ok (.iconst (-1), 1) := by decide +kernel
theorem dX12_clue_5 : decode cX12_clue 5 = .ok (.if_icmp .eq 32, 3) := by decide +kernel
theorem dX12_clue_8 : decode cX12_clue 8 = .ok (.iload_n 1, 1) := by decide +kernel
theorem dX12_clue_9 : decode cX12_clue 9 = .ok (.ifCond .lt 28, 3) := by decide +kernel
theorem dX12_clue_12 : decode cX12_clue 12 = .ok (.iload_n 1, 1) := by decide +kernel
theorem dX12_clue_13 : decode cX12_clue 13 = .ok (.iconst 5, 1) := by decide +kernel
theorem dX12_clue_14 : decode cX12_clue 14 = .ok (.if_icmp .gt 23, 3) := by decide +kernel
theorem dX12_clue_17 : decode cX12_clue 17 = .ok (.iload_n 2, 1) := by decide +kernel
theorem dX12_clue_18 : decode cX12_clue 18 = .ok (.ifCond .lt 19, 3) := by decide +kernel
theorem dX12_clue_21 : decode cX12_clue 21 = .ok (.iload_n 2, 1) := by decide +kernel
theorem dX12_clue_22 : decode cX12_clue 22 = .ok (.bipush 99, 2) := by decide +kernel
theorem dX12_clue_24 : decode cX12_clue 24 = .ok (.if_icmp .gt 13, 3) := by decide +kernel
theorem dX12_clue_27 : decode cX12_clue 27 = .ok (.iload_n 3, 1) := by decide +kernel
theorem dX12_clue_28 : decode cX12_clue 28 = .ok (.ifCond .lt 9, 3) := by decide +kernel
theorem dX12_clue_31 : decode cX12_clue 31 = .ok (.iload_n 3, 1) := by decide +kernel
theorem dX12_clue_32 : decode cX12_clue 32 = .ok (.bipush 99, 2) := by decide +kernel
theorem dX12_clue_34 : decode cX12_clue 34 = .ok (.if_icmp .le 5, 3) := by decide +kernel
theorem dX12_clue_37 : decode cX12_clue 37 = .ok (.iconst (-1), 1) := by decide +kernel
theorem dX12_clue_38 : decode cX12_clue 38 = .ok (.ireturn, 1) := by decide +kernel
theorem dX12_clue_39 : decode cX12_clue 39 = .ok (.aload_n 0, 1) := by decide +kernel
theorem dX12_clue_40 : decode cX12_clue 40 = .ok (.getfield 76, 3) := by decide +kernel
theorem dX12_clue_43 : decode cX12_clue 43 = .ok (.iload_n 1, 1) := by decide +kernel
theorem dX12_clue_44 : decode cX12_clue 44 = .ok (.iload_n 2, 1) := by decide +kernel
theorem dX12_clue_45 : decode cX12_clue 45 = .ok (.iload_n 3, 1) := by decide +kernel
theorem dX12_clue_46 : decode cX12_clue 46 = .ok (.invokevirtual 303, 3) := by decide +kernel
theorem dX12_clue_49 : decode cX12_clue 49 = .ok (.ireturn, 1) := by decide +kernel
theorem dX12_can_0 : decode cX12_can 0 = .ok (.aload_n 0, 1) := by decide +kernel
theorem dX12_can_1 : decode cX12_can 1 = .ok (.getfield 87, 3) := by decide +kernel
theorem dX12_can_4 : decode cX12_can 4 = .ok (.iconst (-1), 1) := by decide +kernel
theorem dX12_can_5 : decode cX12_can 5 = .ok (.if_icmp .eq 12, 3) := by decide +kernel
theorem dX12_can_8 : decode cX12_can 8 = .ok (.iload_n 1, 1) := by decide +kernel
theorem dX12_can_9 : decode cX12_can 9 = .ok (.ifCond .lt 8, 3) := by decide +kernel
theorem dX12_can_12 : decode cX12_can 12 = .ok (.iload_n 1, 1) := by decide +kernel
theorem dX12_can_13 : decode cX12_can 13 = .ok (.iconst 1, 1) := by decide +kernel
theorem dX12_can_14 : decode cX12_can 14 = .ok (.if_icmp .le 5, 3) := by decide +kernel
theorem dX12_can_17 : decode cX12_can 17 = .ok (.iconst (-1), 1) := by decide +kernel
theorem dX12_can_18 : decode cX12_can 18 = .ok (.ireturn, 1) := by decide +kernel
theorem dX12_can_19 : decode cX12_can 19 = .ok (.iload_n 1, 1) := by decide +kernel
theorem dX12_can_20 : decode cX12_can 20 = .ok (.ifCond .ne 13, 3) := by decide +kernel
theorem dX12_can_23 : decode cX12_can 23 = .ok (.aload_n 0, 1) := by decide +kernel
theorem dX12_can_24 : decode cX12_can 24 = .ok (.getfield 76, 3) := by decide +kernel
theorem dX12_can_27 : decode cX12_can 27 = .ok (.invokevirtual 306, 3) := by decide +kernel
theorem dX12_can_30 : decode cX12_can 30 = .ok (.goto 10, 3) := by decide +kernel
theorem dX12_can_33 : decode cX12_can 33 = .ok (.aload_n 0, 1) := by decide +kernel
theorem dX12_can_34 : decode cX12_can 34 = .ok (.getfield 76, 3) := by decide +kernel
theorem dX12_can_37 : decode cX12_can 37 = .ok (.invokevirtual 309, 3) := by decide +kernel
theorem dX12_can_40 : decode cX12_can 40 = .ok (.ireturn, 1) := by decide +kernel
theorem dX12_cross_0 : decode cX12_cross 0 = .ok (.aload_n 0, 1) := by decide +kernel
theorem dX12_cross_1 : decode cX12_cross 1 = .ok (.iload_n 1, 1) := by decide +kernel
theorem dX12_cross_2 : decode cX12_cross 2 = .ok (.invokevirtual 312, 3) := by decide +kernel
theorem dX12_cross_5 : decode cX12_cross 5 = .ok (.ifCond .eq 22, 3) := by decide +kernel
theorem dX12_cross_8 : decode cX12_cross 8 = .ok (.aload_n 0, 1) := by decide +kernel
theorem dX12_cross_9 : decode cX12_cross 9 = .ok (.iload_n 2, 1) := by decide +kernel
theorem dX12_cross_10 : decode cX12_cross 10 = .ok (.invokevirtual 312, 3) := by decide +kernel
theorem dX12_cross_13 : decode cX12_cross 13 = .ok (.ifCond .eq 14, 3) := by decide +kernel
theorem dX12_cross_16 : decode cX12_cross 16 = .ok (.iload_n 1, 1) := by decide +kernel
theorem dX12_cross_17 : decode cX12_cross 17 = .ok (.bipush 100, 2) := by decide +kernel
theorem dX12_cross_19 : decode cX12_cross 19 = .ok (.idiv, 1) := by decide +kernel
theorem dX12_cross_20 : decode cX12_cross 20 = .ok (.iload_n 2, 1) := by decide +kernel
theorem dX12_cross_21 : decode cX12_cross 21 = .ok (.bipush 100, 2) := by decide +kernel
theorem dX12_cross_23 : decode cX12_cross 23 = .ok (.idiv, 1) := by decide +kernel
theorem dX12_cross_24 : decode cX12_cross 24 = .ok (.if_icmp .ne 5, 3) := by decide +kernel
theorem dX12_cross_27 : decode cX12_cross 27 = .ok (.iconst (-1), 1) := by decide +kernel
theorem dX12_cross_28 : decode cX12_cross 28 = .ok (.ireturn, 1) := by decide +kernel
theorem dX12_cross_29 : decode cX12_cross 29 = .ok (.aload_n 0, 1) := by decide +kernel
theorem dX12_cross_30 : decode cX12_cross 30 = .ok (.getfield 18, 3) := by decide +kernel
theorem dX12_cross_33 : decode cX12_cross 33 = .ok (.iload_n 1, 1) := by decide +kernel
theorem dX12_cross_34 : decode cX12_cross 34 = .ok (.bipush 100, 2) := by decide +kernel
theorem dX12_cross_36 : decode cX12_cross 36 = .ok (.idiv, 1) := by decide +kernel
theorem dX12_cross_37 : decode cX12_cross 37 = .ok (.aaload, 1) := by decide +kernel
theorem dX12_cross_38 : decode cX12_cross 38 = .ok (.iload_n 1, 1) := by decide +kernel
theorem dX12_cross_39 : decode cX12_cross 39 = .ok (.bipush 100, 2) := by decide +kernel
theorem dX12_cross_41 : decode cX12_cross 41 = .ok (.irem, 1) := by decide +kernel
theorem dX12_cross_42 : decode cX12_cross 42 = .ok (.aload_n 0, 1) := by decide +kernel
theorem dX12_cross_43 : decode cX12_cross 43 = .ok (.getfield 18, 3) := by decide +kernel
theorem dX12_cross_46 : decode cX12_cross 46 = .ok (.iload_n 2, 1) := by decide +kernel
theorem dX12_cross_47 : decode cX12_cross 47 = .ok (.bipush 100, 2) := by decide +kernel
theorem dX12_cross_49 : decode cX12_cross 49 = .ok (.idiv, 1) := by decide +kernel
theorem dX12_cross_50 : decode cX12_cross 50 = .ok (.aaload, 1) := by decide +kernel
theorem dX12_cross_51 : decode cX12_cross 51 = .ok (.iload_n 2, 1) := by decide +kernel
theorem dX12_cross_52 : decode cX12_cross 52 = .ok (.bipush 100, 2) := by decide +kernel
theorem dX12_cross_54 : decode cX12_cross 54 = .ok (.irem, 1) := by decide +kernel
theorem dX12_cross_55 : decode cX12_cross 55 = .ok (.invokestatic 315, 3) := by decide +kernel
theorem dX12_cross_58 : decode cX12_cross 58 = .ok (.ireturn, 1) := by decide +kernel
theorem dX12_meetings_0 : decode cX12_meetings 0 = .ok (.iload_n 1, 1) := by decide +kernel
theorem dX12_meetings_1 : decode cX12_meetings 1 = .ok (.ifCond .lt 37, 3) := by decide +kernel
theorem dX12_meetings_4 : decode cX12_meetings 4 = .ok (.iload_n 1, 1) := by decide +kernel
theorem dX12_meetings_5 : decode cX12_meetings 5 = .ok (.aload_n 0, 1) := by decide +kernel
theorem dX12_meetings_6 : decode cX12_meetings 6 = .ok (.getfield 102, 3) := by decide +kernel
theorem dX12_meetings_9 : decode cX12_meetings 9 = .ok (.if_icmp .ge 29, 3) := by decide +kernel
theorem dX12_meetings_12 : decode cX12_meetings 12 = .ok (.iload_n 2, 1) := by decide +kernel
theorem dX12_meetings_13 : decode cX12_meetings 13 = .ok (.ifCond .lt 25, 3) := by decide +kernel
theorem dX12_meetings_16 : decode cX12_meetings 16 = .ok (.iload_n 2, 1) := by decide +kernel
theorem dX12_meetings_17 : decode cX12_meetings 17 = .ok (.aload_n 0, 1) := by decide +kernel
theorem dX12_meetings_18 : decode cX12_meetings 18 = .ok (.getfield 102, 3) := by decide +kernel
theorem dX12_meetings_21 : decode cX12_meetings 21 = .ok (.if_icmp .ge 17, 3) := by decide +kernel
theorem dX12_meetings_24 : decode cX12_meetings 24 = .ok (.iload_n 1, 1) := by decide +kernel
theorem dX12_meetings_25 : decode cX12_meetings 25 = .ok (.iload_n 2, 1) := by decide +kernel
theorem dX12_meetings_26 : decode cX12_meetings 26 = .ok (.if_icmp .eq 12, 3) := by decide +kernel
theorem dX12_meetings_29 : decode cX12_meetings 29 = .ok (.iload_n 3, 1) := by decide +kernel
theorem dX12_meetings_30 : decode cX12_meetings 30 = .ok (.ifCond .lt 8, 3) := by decide +kernel
theorem dX12_meetings_33 : decode cX12_meetings 33 = .ok (.iload_n 3, 1) := by decide +kernel
theorem dX12_meetings_34 : decode cX12_meetings 34 = .ok (.iconst 1, 1) := by decide +kernel
theorem dX12_meetings_35 : decode cX12_meetings 35 = .ok (.if_icmp .le 5, 3) := by decide +kernel
theorem dX12_meetings_38 : decode cX12_meetings 38 = .ok (.iconst (-1), 1) := by decide +kernel
theorem dX12_meetings_39 : decode cX12_meetings 39 = .ok (.ireturn, 1) := by decide +kernel
theorem dX12_meetings_40 : decode cX12_meetings 40 = .ok (.iload_n 3, 1) := by decide +kernel
theorem dX12_meetings_41 : decode cX12_meetings 41 = .ok (.ifCond .ne 21, 3) := by decide +kernel
theorem dX12_meetings_44 : decode cX12_meetings 44 = .ok (.aload_n 0, 1) := by decide +kernel
theorem dX12_meetings_45 : decode cX12_meetings 45 = .ok (.getfield 18, 3) := by decide +kernel
theorem dX12_meetings_48 : decode cX12_meetings 48 = .ok (.iload_n 1, 1) := by decide +kernel
theorem dX12_meetings_49 : decode cX12_meetings 49 = .ok (.aaload, 1) := by decide +kernel
theorem dX12_meetings_50 : decode cX12_meetings 50 = .ok (.aload_n 0, 1) := by decide +kernel
theorem dX12_meetings_51 : decode cX12_meetings 51 = .ok (.getfield 18, 3) := by decide +kernel
theorem dX12_meetings_54 : decode cX12_meetings 54 = .ok (.iload_n 2, 1) := by decide +kernel
theorem dX12_meetings_55 : decode cX12_meetings 55 = .ok (.aaload, 1) := by decide +kernel
theorem dX12_meetings_56 : decode cX12_meetings 56 = .ok (.invokestatic 319, 3) := by decide +kernel
theorem dX12_meetings_59 : decode cX12_meetings 59 = .ok (.goto 18, 3) := by decide +kernel
theorem dX12_meetings_62 : decode cX12_meetings 62 = .ok (.aload_n 0, 1) := by decide +kernel
theorem dX12_meetings_63 : decode cX12_meetings 63 = .ok (.getfield 18, 3) := by decide +kernel
theorem dX12_meetings_66 : decode cX12_meetings 66 = .ok (.iload_n 1, 1) := by decide +kernel
theorem dX12_meetings_67 : decode cX12_meetings 67 = .ok (.aaload, 1) := by decide +kernel
theorem dX12_meetings_68 : decode cX12_meetings 68 = .ok (.aload_n 0, 1) := by decide +kernel
theorem dX12_meetings_69 : decode cX12_meetings 69 = .ok (.getfield 18, 3) := by decide +kernel
theorem dX12_meetings_72 : decode cX12_meetings 72 = .ok (.iload_n 2, 1) := by decide +kernel
theorem dX12_meetings_73 : decode cX12_meetings 73 = .ok (.aaload, 1) := by decide +kernel
theorem dX12_meetings_74 : decode cX12_meetings 74 = .ok (.invokestatic 323, 3) := by decide +kernel
theorem dX12_meetings_77 : decode cX12_meetings 77 = .ok (.ireturn, 1) := by decide +kernel
theorem dX12_birthday_0 : decode cX12_birthday 0 = .ok (.aload_n 0, 1) := by decide +kernel
theorem dX12_birthday_1 : decode cX12_birthday 1 = .ok (.getfield 87, 3) := by decide +kernel
theorem dX12_birthday_4 : decode cX12_birthday 4 = .ok (.iconst (-1), 1) := by decide +kernel
theorem dX12_birthday_5 : decode cX12_birthday 5 = .ok (.if_icmp .ne 7, 3) := by decide +kernel
theorem dX12_birthday_8 : decode cX12_birthday 8 = .ok (.iconst (-1), 1) := by decide +kernel
theorem dX12_birthday_9 : decode cX12_birthday 9 = .ok (.goto 11, 3) := by decide +kernel
theorem dX12_birthday_12 : decode cX12_birthday 12 = .ok (.aload_n 0, 1) := by decide +kernel
theorem dX12_birthday_13 : decode cX12_birthday 13 = .ok (.getfield 83, 3) := by decide +kernel
theorem dX12_birthday_16 : decode cX12_birthday 16 = .ok (.lload_n 1, 1) := by decide +kernel
theorem dX12_birthday_17 : decode cX12_birthday 17 = .ok (.invokevirtual 326, 3) := by decide +kernel
theorem dX12_birthday_20 : decode cX12_birthday 20 = .ok (.ireturn, 1) := by decide +kernel
theorem dX12_born_0 : decode cX12_born 0 = .ok (.iload_n 1, 1) := by decide +kernel
theorem dX12_born_1 : decode cX12_born 1 = .ok (.ifCond .lt 14, 3) := by decide +kernel
theorem dX12_born_4 : decode cX12_born 4 = .ok (.iload_n 1, 1) := by decide +kernel
theorem dX12_born_5 : decode cX12_born 5 = .ok (.aload_n 0, 1) := by decide +kernel
theorem dX12_born_6 : decode cX12_born 6 = .ok (.getfield 83, 3) := by decide +kernel
theorem dX12_born_9 : decode cX12_born 9 = .ok (.getfield 330, 3) := by decide +kernel
theorem dX12_born_12 : decode cX12_born 12 = .ok (.if_icmp .lt 7, 3) := by decide +kernel
theorem dX12_born_15 : decode cX12_born 15 = .ok (.iconst (-1), 1) := by decide +kernel
theorem dX12_born_16 : decode cX12_born 16 = .ok (.goto 12, 3) := by decide +kernel
theorem dX12_born_19 : decode cX12_born 19 = .ok (.aload_n 0, 1) := by decide +kernel
theorem dX12_born_20 : decode cX12_born 20 = .ok (.getfield 83, 3) := by decide +kernel
theorem dX12_born_23 : decode cX12_born 23 = .ok (.getfield 333, 3) := by decide +kernel
theorem dX12_born_26 : decode cX12_born 26 = .ok (.iload_n 1, 1) := by decide +kernel
theorem dX12_born_27 : decode cX12_born 27 = .ok (.iaload, 1) := by decide +kernel
theorem dX12_born_28 : decode cX12_born 28 = .ok (.ireturn, 1) := by decide +kernel
theorem dX12_take_0 : decode cX12_take 0 = .ok (.aload_n 0, 1) := by decide +kernel
theorem dX12_take_1 : decode cX12_take 1 = .ok (.getfield 83, 3) := by decide +kernel
theorem dX12_take_4 : decode cX12_take 4 = .ok (.getfield 330, 3) := by decide +kernel
theorem dX12_take_7 : decode cX12_take 7 = .ok (.ifCond .ne 5, 3) := by decide +kernel
theorem dX12_take_10 : decode cX12_take 10 = .ok (.iconst (-1), 1) := by decide +kernel
theorem dX12_take_11 : decode cX12_take 11 = .ok (.ireturn, 1) := by decide +kernel
theorem dX12_take_12 : decode cX12_take 12 = .ok (.aload_n 0, 1) := by decide +kernel
theorem dX12_take_13 : decode cX12_take 13 = .ok (.getfield 83, 3) := by decide +kernel
theorem dX12_take_16 : decode cX12_take 16 = .ok (.dup, 1) := by decide +kernel
theorem dX12_take_17 : decode cX12_take 17 = .ok (.getfield 330, 3) := by decide +kernel
theorem dX12_take_20 : decode cX12_take 20 = .ok (.iconst 1, 1) := by decide +kernel
theorem dX12_take_21 : decode cX12_take 21 = .ok (.isub, 1) := by decide +kernel
theorem dX12_take_22 : decode cX12_take 22 = .ok (.putfield 330, 3) := by decide +kernel
theorem dX12_take_25 : decode cX12_take 25 = .ok (.aload_n 0, 1) := by decide +kernel
theorem dX12_take_26 : decode cX12_take 26 = .ok (.getfield 83, 3) := by decide +kernel
theorem dX12_take_29 : decode cX12_take 29 = .ok (.getfield 330, 3) := by decide +kernel
theorem dX12_take_32 : decode cX12_take 32 = .ok (.ireturn, 1) := by decide +kernel
theorem dX12_town_0 : decode cX12_town 0 = .ok (.aload_n 0, 1) := by decide +kernel
theorem dX12_town_1 : decode cX12_town 1 = .ok (.getfield 51, 3) := by decide +kernel
theorem dX12_town_4 : decode cX12_town 4 = .ok (.getfield 118, 3) := by decide +kernel
theorem dX12_town_7 : decode cX12_town 7 = .ok (.iload 4, 2) := by decide +kernel
theorem dX12_town_9 : decode cX12_town 9 = .ok (.invokevirtual 125, 3) := by decide +kernel
theorem dX12_town_12 : decode cX12_town 12 = .ok (.ifCond .eq 14, 3) := by decide +kernel
theorem dX12_town_15 : decode cX12_town 15 = .ok (.iload_n 1, 1) := by decide +kernel
theorem dX12_town_16 : decode cX12_town 16 = .ok (.iconst 1, 1) := by decide +kernel
theorem dX12_town_17 : decode cX12_town 17 = .ok (.if_icmp .lt 9, 3) := by decide +kernel
theorem dX12_town_20 : decode cX12_town 20 = .ok (.iload_n 1, 1) := by decide +kernel
theorem dX12_town_21 : decode cX12_town 21 = .ok (.bipush 99, 2) := by decide +kernel
theorem dX12_town_23 : decode cX12_town 23 = .ok (.if_icmp .le 5, 3) := by decide +kernel
theorem dX12_town_26 : decode cX12_town 26 = .ok (.iconst (-1), 1) := by decide +kernel
theorem dX12_town_27 : decode cX12_town 27 = .ok (.ireturn, 1) := by decide +kernel
theorem dX12_town_28 : decode cX12_town 28 = .ok (.aload_n 0, 1) := by decide +kernel
theorem dX12_town_29 : decode cX12_town 29 = .ok (.getfield 83, 3) := by decide +kernel
theorem dX12_town_32 : decode cX12_town 32 = .ok (.iload_n 1, 1) := by decide +kernel
theorem dX12_town_33 : decode cX12_town 33 = .ok (.lload_n 2, 1) := by decide +kernel
theorem dX12_town_34 : decode cX12_town 34 = .ok (.iload 4, 2) := by decide +kernel
theorem dX12_town_36 : decode cX12_town 36 = .ok (.invokevirtual 336, 3) := by decide +kernel
theorem dX12_town_39 : decode cX12_town 39 = .ok (.ireturn, 1) := by decide +kernel
theorem dX12_image_0 : decode cX12_image 0 = .ok (.aload_n 0, 1) := by decide +kernel
theorem dX12_image_1 : decode cX12_image 1 = .ok (.getfield 87, 3) := by decide +kernel
theorem dX12_image_4 : decode cX12_image 4 = .ok (.iconst (-1), 1) := by decide +kernel
theorem dX12_image_5 : decode cX12_image 5 = .ok (.if_icmp .ne 5, 3) := by decide +kernel
theorem dX12_image_8 : decode cX12_image 8 = .ok (.iconst (-1), 1) := by decide +kernel
theorem dX12_image_9 : decode cX12_image 9 = .ok (.ireturn, 1) := by decide +kernel
theorem dX12_image_10 : decode cX12_image 10 = .ok (.aload_n 0, 1) := by decide +kernel
theorem dX12_image_11 : decode cX12_image 11 = .ok (.getfield 51, 3) := by decide +kernel
theorem dX12_image_14 : decode cX12_image 14 = .ok (.getfield 200, 3) := by decide +kernel
theorem dX12_image_17 : decode cX12_image 17 = .ok (.invokevirtual 340, 3) := by decide +kernel
theorem dX12_image_20 : decode cX12_image 20 = .ok (.aload_n 0, 1) := by decide +kernel
theorem dX12_image_21 : decode cX12_image 21 = .ok (.getfield 51, 3) := by decide +kernel
theorem dX12_image_24 : decode cX12_image 24 = .ok (.invokevirtual 343, 3) := by decide +kernel
theorem dX12_image_27 : decode cX12_image 27 = .ok (.invokestatic 168, 3) := by decide +kernel
theorem dX12_image_30 : decode cX12_image 30 = .ok (.ireturn, 1) := by decide +kernel
theorem dX12_back_0 : decode cX12_back 0 = .ok (.aload_n 0, 1) := by decide +kernel
theorem dX12_back_1 : decode cX12_back 1 = .ok (.getfield 51, 3) := by decide +kernel
theorem dX12_back_4 : decode cX12_back 4 = .ok (.getfield 200, 3) := by decide +kernel
theorem dX12_back_7 : decode cX12_back 7 = .ok (.getfield 346, 3) := by decide +kernel
theorem dX12_back_10 : decode cX12_back 10 = .ok (.ifCond .ne 5, 3) := by decide +kernel
theorem dX12_back_13 : decode cX12_back 13 = .ok (.iconst (-1), 1) := by decide +kernel
theorem dX12_back_14 : decode cX12_back 14 = .ok (.ireturn, 1) := by decide +kernel
theorem dX12_back_15 : decode cX12_back 15 = .ok (.aload_n 0, 1) := by decide +kernel
theorem dX12_back_16 : decode cX12_back 16 = .ok (.getfield 51, 3) := by decide +kernel
theorem dX12_back_19 : decode cX12_back 19 = .ok (.getfield 200, 3) := by decide +kernel
theorem dX12_back_22 : decode cX12_back 22 = .ok (.invokevirtual 350, 3) := by decide +kernel
theorem dX12_back_25 : decode cX12_back 25 = .ok (.aload_n 0, 1) := by decide +kernel
theorem dX12_back_26 : decode cX12_back 26 = .ok (.getfield 51, 3) := by decide +kernel
theorem dX12_back_29 : decode cX12_back 29 = .ok (.invokevirtual 343, 3) := by decide +kernel
theorem dX12_back_32 : decode cX12_back 32 = .ok (.invokestatic 168, 3) := by decide +kernel
theorem dX12_back_35 : decode cX12_back 35 = .ok (.ireturn, 1) := by decide +kernel
theorem dX12_count_0 : decode cX12_count 0 = .ok (.iload_n 1, 1) := by decide +kernel
theorem dX12_count_1 : decode cX12_count 1 = .ok (.tableswitch 206 0 13 #[71, 76, 81, 92, 103, 108, 116, 127, 140, 153, 166, 179, 187, 195], 71) := by decide +kernel
theorem dX12_count_72 : decode cX12_count 72 = .ok (.aload_n 0, 1) := by decide +kernel
theorem dX12_count_73 : decode cX12_count 73 = .ok (.getfield 102, 3) := by decide +kernel
theorem dX12_count_76 : decode cX12_count 76 = .ok (.ireturn, 1) := by decide +kernel
theorem dX12_count_77 : decode cX12_count 77 = .ok (.aload_n 0, 1) := by decide +kernel
theorem dX12_count_78 : decode cX12_count 78 = .ok (.getfield 87, 3) := by decide +kernel
theorem dX12_count_81 : decode cX12_count 81 = .ok (.ireturn, 1) := by decide +kernel
theorem dX12_count_82 : decode cX12_count 82 = .ok (.aload_n 0, 1) := by decide +kernel
theorem dX12_count_83 : decode cX12_count 83 = .ok (.getfield 51, 3) := by decide +kernel
theorem dX12_count_86 : decode cX12_count 86 = .ok (.getfield 118, 3) := by decide +kernel
theorem dX12_count_89 : decode cX12_count 89 = .ok (.getfield 122, 3) := by decide +kernel
theorem dX12_count_92 : decode cX12_count 92 = .ok (.ireturn, 1) := by decide +kernel
theorem dX12_count_93 : decode cX12_count 93 = .ok (.aload_n 0, 1) := by decide +kernel
theorem dX12_count_94 : decode cX12_count 94 = .ok (.getfield 51, 3) := by decide +kernel
theorem dX12_count_97 : decode cX12_count 97 = .ok (.getfield 118, 3) := by decide +kernel
theorem dX12_count_100 : decode cX12_count 100 = .ok (.getfield 353, 3) := by decide +kernel
theorem dX12_count_103 : decode cX12_count 103 = .ok (.ireturn, 1) := by decide +kernel
theorem dX12_count_104 : decode cX12_count 104 = .ok (.aload_n 0, 1) := by decide +kernel
theorem dX12_count_105 : decode cX12_count 105 = .ok (.getfield 109, 3) := by decide +kernel
theorem dX12_count_108 : decode cX12_count 108 = .ok (.ireturn, 1) := by decide +kernel
theorem dX12_count_109 : decode cX12_count 109 = .ok (.aload_n 0, 1) := by decide +kernel
theorem dX12_count_110 : decode cX12_count 110 = .ok (.getfield 10, 3) := by decide +kernel
theorem dX12_count_113 : decode cX12_count 113 = .ok (.getfield 95, 3) := by decide +kernel
theorem dX12_count_116 : decode cX12_count 116 = .ok (.ireturn, 1) := by decide +kernel
theorem dX12_count_117 : decode cX12_count 117 = .ok (.aload_n 0, 1) := by decide +kernel
theorem dX12_count_118 : decode cX12_count 118 = .ok (.getfield 51, 3) := by decide +kernel
theorem dX12_count_121 : decode cX12_count 121 = .ok (.invokevirtual 343, 3) := by decide +kernel
theorem dX12_count_124 : decode cX12_count 124 = .ok (.invokestatic 168, 3) := by decide +kernel
theorem dX12_count_127 : decode cX12_count 127 = .ok (.ireturn, 1) := by decide +kernel
theorem dX12_count_128 : decode cX12_count 128 = .ok (.aload_n 0, 1) := by decide +kernel
theorem dX12_count_129 : decode cX12_count 129 = .ok (.getfield 51, 3) := by decide +kernel
theorem dX12_count_132 : decode cX12_count 132 = .ok (.getfield 200, 3) := by decide +kernel
theorem dX12_count_135 : decode cX12_count 135 = .ok (.getfield 212, 3) := by decide +kernel
theorem dX12_count_138 : decode cX12_count 138 = .ok (.iconst 0, 1) := by decide +kernel
theorem dX12_count_139 : decode cX12_count 139 = .ok (.iaload, 1) := by decide +kernel
theorem dX12_count_140 : decode cX12_count 140 = .ok (.ireturn, 1) := by decide +kernel
theorem dX12_count_141 : decode cX12_count 141 = .ok (.aload_n 0, 1) := by decide +kernel
theorem dX12_count_142 : decode cX12_count 142 = .ok (.getfield 51, 3) := by decide +kernel
theorem dX12_count_145 : decode cX12_count 145 = .ok (.getfield 200, 3) := by decide +kernel
theorem dX12_count_148 : decode cX12_count 148 = .ok (.getfield 212, 3) := by decide +kernel
theorem dX12_count_151 : decode cX12_count 151 = .ok (.iconst 1, 1) := by decide +kernel
theorem dX12_count_152 : decode cX12_count 152 = .ok (.iaload, 1) := by decide +kernel
theorem dX12_count_153 : decode cX12_count 153 = .ok (.ireturn, 1) := by decide +kernel
theorem dX12_count_154 : decode cX12_count 154 = .ok (.aload_n 0, 1) := by decide +kernel
theorem dX12_count_155 : decode cX12_count 155 = .ok (.getfield 51, 3) := by decide +kernel
theorem dX12_count_158 : decode cX12_count 158 = .ok (.getfield 200, 3) := by decide +kernel
theorem dX12_count_161 : decode cX12_count 161 = .ok (.getfield 212, 3) := by decide +kernel
theorem dX12_count_164 : decode cX12_count 164 = .ok (.iconst 2, 1) := by decide +kernel
theorem dX12_count_165 : decode cX12_count 165 = .ok (.iaload, 1) := by decide +kernel
theorem dX12_count_166 : decode cX12_count 166 = .ok (.ireturn, 1) := by decide +kernel
theorem dX12_count_167 : decode cX12_count 167 = .ok (.aload_n 0, 1) := by decide +kernel
theorem dX12_count_168 : decode cX12_count 168 = .ok (.getfield 51, 3) := by decide +kernel
theorem dX12_count_171 : decode cX12_count 171 = .ok (.getfield 200, 3) := by decide +kernel
theorem dX12_count_174 : decode cX12_count 174 = .ok (.getfield 212, 3) := by decide +kernel
theorem dX12_count_177 : decode cX12_count 177 = .ok (.iconst 3, 1) := by decide +kernel
theorem dX12_count_178 : decode cX12_count 178 = .ok (.iaload, 1) := by decide +kernel
theorem dX12_count_179 : decode cX12_count 179 = .ok (.ireturn, 1) := by decide +kernel
theorem dX12_count_180 : decode cX12_count 180 = .ok (.aload_n 0, 1) := by decide +kernel
theorem dX12_count_181 : decode cX12_count 181 = .ok (.getfield 76, 3) := by decide +kernel
theorem dX12_count_184 : decode cX12_count 184 = .ok (.getfield 356, 3) := by decide +kernel
theorem dX12_count_187 : decode cX12_count 187 = .ok (.ireturn, 1) := by decide +kernel
theorem dX12_count_188 : decode cX12_count 188 = .ok (.aload_n 0, 1) := by decide +kernel
theorem dX12_count_189 : decode cX12_count 189 = .ok (.getfield 83, 3) := by decide +kernel
theorem dX12_count_192 : decode cX12_count 192 = .ok (.getfield 330, 3) := by decide +kernel
theorem dX12_count_195 : decode cX12_count 195 = .ok (.ireturn, 1) := by decide +kernel
theorem dX12_count_196 : decode cX12_count 196 = .ok (.aload_n 0, 1) := by decide +kernel
theorem dX12_count_197 : decode cX12_count 197 = .ok (.getfield 51, 3) := by decide +kernel
theorem dX12_count_200 : decode cX12_count 200 = .ok (.getfield 200, 3) := by decide +kernel
theorem dX12_count_203 : decode cX12_count 203 = .ok (.getfield 359, 3) := by decide +kernel
theorem dX12_count_206 : decode cX12_count 206 = .ok (.ireturn, 1) := by decide +kernel
theorem dX12_count_207 : decode cX12_count 207 = .ok (.ldc 223, 2) := by decide +kernel
theorem dX12_count_209 : decode cX12_count 209 = .ok (.ireturn, 1) := by decide +kernel
theorem dX12_bringToTable_0 : decode cX12_bringToTable 0 = .ok (.aload_n 0, 1) := by decide +kernel
theorem dX12_bringToTable_1 : decode cX12_bringToTable 1 = .ok (.iload_n 1, 1) := by decide +kernel
theorem dX12_bringToTable_2 : decode cX12_bringToTable 2 = .ok (.putfield 87, 3) := by decide +kernel
theorem dX12_bringToTable_5 : decode cX12_bringToTable 5 = .ok (.aload_n 0, 1) := by decide +kernel
theorem dX12_bringToTable_6 : decode cX12_bringToTable 6 = .ok (.getfield 51, 3) := by decide +kernel
theorem dX12_bringToTable_9 : decode cX12_bringToTable 9 = .ok (.aload_n 0, 1) := by decide +kernel
theorem dX12_bringToTable_10 : decode cX12_bringToTable 10 = .ok (.getfield 18, 3) := by decide +kernel
theorem dX12_bringToTable_13 : decode cX12_bringToTable 13 = .ok (.iload_n 1, 1) := by decide +kernel
theorem dX12_bringToTable_14 : decode cX12_bringToTable 14 = .ok (.aaload, 1) := by decide +kernel
theorem dX12_bringToTable_15 : decode cX12_bringToTable 15 = .ok (.putfield 118, 3) := by decide +kernel
theorem dX12_bringToTable_18 : decode cX12_bringToTable 18 = .ok (.aload_n 0, 1) := by decide +kernel
theorem dX12_bringToTable_19 : decode cX12_bringToTable 19 = .ok (.getfield 51, 3) := by decide +kernel
theorem dX12_bringToTable_22 : decode cX12_bringToTable 22 = .ok (.getfield 200, 3) := by decide +kernel
theorem dX12_bringToTable_25 : decode cX12_bringToTable 25 = .ok (.invokevirtual 362, 3) := by decide +kernel
theorem dX12_bringToTable_28 : decode cX12_bringToTable 28 = .ok (.iconst 0, 1) := by decide +kernel
theorem dX12_bringToTable_29 : decode cX12_bringToTable 29 = .ok (.istore_n 2, 1) := by decide +kernel
theorem dX12_bringToTable_30 : decode cX12_bringToTable 30 = .ok (.iload_n 2, 1) := by decide +kernel
theorem dX12_bringToTable_31 : decode cX12_bringToTable 31 = .ok (.aload_n 0, 1) := by decide +kernel
theorem dX12_bringToTable_32 : decode cX12_bringToTable 32 = .ok (.getfield 51, 3) := by decide +kernel
theorem dX12_bringToTable_35 : decode cX12_bringToTable 35 = .ok (.getfield 118, 3) := by decide +kernel
theorem dX12_bringToTable_38 : decode cX12_bringToTable 38 = .ok (.getfield 353, 3) := by decide +kernel
theorem dX12_bringToTable_41 : decode cX12_bringToTable 41 = .ok (.if_icmp .ge 34, 3) := by decide +kernel
theorem dX12_bringToTable_44 : decode cX12_bringToTable 44 = .ok (.aload_n 0, 1) := by decide +kernel
theorem dX12_bringToTable_45 : decode cX12_bringToTable 45 = .ok (.getfield 51, 3) := by decide +kernel
theorem dX12_bringToTable_48 : decode cX12_bringToTable 48 = .ok (.getfield 200, 3) := by decide +kernel
theorem dX12_bringToTable_51 : decode cX12_bringToTable 51 = .ok (.getfield 212, 3) := by decide +kernel
theorem dX12_bringToTable_54 : decode cX12_bringToTable 54 = .ok (.iconst 4, 1) := by decide +kernel
theorem dX12_bringToTable_55 : decode cX12_bringToTable 55 = .ok (.iload_n 2, 1) := by decide +kernel
theorem dX12_bringToTable_56 : decode cX12_bringToTable 56 = .ok (.iadd, 1) := by decide +kernel
theorem dX12_bringToTable_57 : decode cX12_bringToTable 57 = .ok (.aload_n 0, 1) := by decide +kernel
theorem dX12_bringToTable_58 : decode cX12_bringToTable 58 = .ok (.getfield 51, 3) := by decide +kernel
theorem dX12_bringToTable_61 : decode cX12_bringToTable 61 = .ok (.getfield 118, 3) := by decide +kernel
theorem dX12_bringToTable_64 : decode cX12_bringToTable 64 = .ok (.iload_n 2, 1) := by decide +kernel
theorem dX12_bringToTable_65 : decode cX12_bringToTable 65 = .ok (.invokevirtual 365, 3) := by decide +kernel
theorem dX12_bringToTable_68 : decode cX12_bringToTable 68 = .ok (.iastore, 1) := by decide +kernel
theorem dX12_bringToTable_69 : decode cX12_bringToTable 69 = .ok (.iinc 2 1, 3) := by decide +kernel
theorem dX12_bringToTable_72 : decode cX12_bringToTable 72 = .ok (.goto (-42), 3) := by decide +kernel
theorem dX12_bringToTable_75 : decode cX12_bringToTable 75 = .ok (.aload_n 0, 1) := by decide +kernel
theorem dX12_bringToTable_76 : decode cX12_bringToTable 76 = .ok (.getfield 76, 3) := by decide +kernel
theorem dX12_bringToTable_79 : decode cX12_bringToTable 79 = .ok (.iconst 0, 1) := by decide +kernel
theorem dX12_bringToTable_80 : decode cX12_bringToTable 80 = .ok (.putfield 356, 3) := by decide +kernel
theorem dX12_bringToTable_83 : decode cX12_bringToTable 83 = .ok (.aload_n 0, 1) := by decide +kernel
theorem dX12_bringToTable_84 : decode cX12_bringToTable 84 = .ok (.getfield 83, 3) := by decide +kernel
theorem dX12_bringToTable_87 : decode cX12_bringToTable 87 = .ok (.iconst 0, 1) := by decide +kernel
theorem dX12_bringToTable_88 : decode cX12_bringToTable 88 = .ok (.putfield 330, 3) := by decide +kernel
theorem dX12_bringToTable_91 : decode cX12_bringToTable 91 = .ok (.return_, 1) := by decide +kernel
theorem dX12_differentSelves_0 : decode cX12_differentSelves 0 = .ok (.aload_n 0, 1) := by decide +kernel
theorem dX12_differentSelves_1 : decode cX12_differentSelves 1 = .ok (.getfield 51, 3) := by decide +kernel
theorem dX12_differentSelves_4 : decode cX12_differentSelves 4 = .ok (.getfield 118, 3) := by decide +kernel
theorem dX12_differentSelves_7 : decode cX12_differentSelves 7 = .ok (.iload_n 1, 1) := by decide +kernel
theorem dX12_differentSelves_8 : decode cX12_differentSelves 8 = .ok (.invokevirtual 125, 3) := by decide +kernel
theorem dX12_differentSelves_11 : decode cX12_differentSelves 11 = .ok (.ifCond .eq 26, 3) := by decide +kernel
theorem dX12_differentSelves_14 : decode cX12_differentSelves 14 = .ok (.aload_n 0, 1) := by decide +kernel
theorem dX12_differentSelves_15 : decode cX12_differentSelves 15 = .ok (.getfield 51, 3) := by decide +kernel
theorem dX12_differentSelves_18 : decode cX12_differentSelves 18 = .ok (.getfield 118, 3) := by decide +kernel
theorem dX12_differentSelves_21 : decode cX12_differentSelves 21 = .ok (.iload_n 2, 1) := by decide +kernel
theorem dX12_differentSelves_22 : decode cX12_differentSelves 22 = .ok (.invokevirtual 125, 3) := by decide +kernel
theorem dX12_differentSelves_25 : decode cX12_differentSelves 25 = .ok (.ifCond .eq 12, 3) := by decide +kernel
theorem dX12_differentSelves_28 : decode cX12_differentSelves 28 = .ok (.iload_n 1, 1) := by decide +kernel
theorem dX12_differentSelves_29 : decode cX12_differentSelves 29 = .ok (.iload_n 2, 1) := by decide +kernel
theorem dX12_differentSelves_30 : decode cX12_differentSelves 30 = .ok (.if_icmp .eq 7, 3) := by decide +kernel
theorem dX12_differentSelves_33 : decode cX12_differentSelves 33 = .ok (.iconst 1, 1) := by decide +kernel
theorem dX12_differentSelves_34 : decode cX12_differentSelves 34 = .ok (.goto 4, 3) := by decide +kernel
theorem dX12_differentSelves_37 : decode cX12_differentSelves 37 = .ok (.iconst 0, 1) := by decide +kernel
theorem dX12_differentSelves_38 : decode cX12_differentSelves 38 = .ok (.ireturn, 1) := by decide +kernel
theorem dX12_isSetting_0 : decode cX12_isSetting 0 = .ok (.iload_n 1, 1) := by decide +kernel
theorem dX12_isSetting_1 : decode cX12_isSetting 1 = .ok (.ifCond .eq 8, 3) := by decide +kernel
theorem dX12_isSetting_4 : decode cX12_isSetting 4 = .ok (.iload_n 1, 1) := by decide +kernel
theorem dX12_isSetting_5 : decode cX12_isSetting 5 = .ok (.iconst 3, 1) := by decide +kernel
theorem dX12_isSetting_6 : decode cX12_isSetting 6 = .ok (.if_icmp .ne 18, 3) := by decide +kernel
theorem dX12_isSetting_9 : decode cX12_isSetting 9 = .ok (.iload_n 2, 1) := by decide +kernel
theorem dX12_isSetting_10 : decode cX12_isSetting 10 = .ok (.ifCond .lt 12, 3) := by decide +kernel
theorem dX12_isSetting_13 : decode cX12_isSetting 13 = .ok (.iload_n 2, 1) := by decide +kernel
theorem dX12_isSetting_14 : decode cX12_isSetting 14 = .ok (.iconst 3, 1) := by decide +kernel
theorem dX12_isSetting_15 : decode cX12_isSetting 15 = .ok (.if_icmp .gt 7, 3) := by decide +kernel
theorem dX12_isSetting_18 : decode cX12_isSetting 18 = .ok (.iconst 1, 1) := by decide +kernel
theorem dX12_isSetting_19 : decode cX12_isSetting 19 = .ok (.goto 4, 3) := by decide +kernel
theorem dX12_isSetting_22 : decode cX12_isSetting 22 = .ok (.iconst 0, 1) := by decide +kernel
theorem dX12_isSetting_23 : decode cX12_isSetting 23 = .ok (.ireturn, 1) := by decide +kernel
theorem dX12_isSetting_24 : decode cX12_isSetting 24 = .ok (.iload_n 2, 1) := by decide +kernel
theorem dX12_isSetting_25 : decode cX12_isSetting 25 = .ok (.iconst (-1), 1) := by decide +kernel
theorem dX12_isSetting_26 : decode cX12_isSetting 26 = .ok (.if_icmp .eq 11, 3) := by decide +kernel
theorem dX12_isSetting_29 : decode cX12_isSetting 29 = .ok (.aload_n 0, 1) := by decide +kernel
theorem dX12_isSetting_30 : decode cX12_isSetting 30 = .ok (.iload_n 2, 1) := by decide +kernel
theorem dX12_isSetting_31 : decode cX12_isSetting 31 = .ok (.invokevirtual 274, 3) := by decide +kernel
theorem dX12_isSetting_34 : decode cX12_isSetting 34 = .ok (.ifCond .eq 7, 3) := by decide +kernel
theorem dX12_isSetting_37 : decode cX12_isSetting 37 = .ok (.iconst 1, 1) := by decide +kernel
theorem dX12_isSetting_38 : decode cX12_isSetting 38 = .ok (.goto 4, 3) := by decide +kernel
theorem dX12_isSetting_41 : decode cX12_isSetting 41 = .ok (.iconst 0, 1) := by decide +kernel
theorem dX12_isSetting_42 : decode cX12_isSetting 42 = .ok (.ireturn, 1) := by decide +kernel
theorem dX12_isTaste_0 : decode cX12_isTaste 0 = .ok (.iload_n 1, 1) := by decide +kernel
theorem dX12_isTaste_1 : decode cX12_isTaste 1 = .ok (.ifCond .lt 15, 3) := by decide +kernel
theorem dX12_isTaste_4 : decode cX12_isTaste 4 = .ok (.iload_n 1, 1) := by decide +kernel
theorem dX12_isTaste_5 : decode cX12_isTaste 5 = .ok (.aload_n 0, 1) := by decide +kernel
theorem dX12_isTaste_6 : decode cX12_isTaste 6 = .ok (.getfield 109, 3) := by decide +kernel
theorem dX12_isTaste_9 : decode cX12_isTaste 9 = .ok (.if_icmp .ge 7, 3) := by decide +kernel
theorem dX12_isTaste_12 : decode cX12_isTaste 12 = .ok (.iconst 1, 1) := by decide +kernel
theorem dX12_isTaste_13 : decode cX12_isTaste 13 = .ok (.goto 4, 3) := by decide +kernel
theorem dX12_isTaste_16 : decode cX12_isTaste 16 = .ok (.iconst 0, 1) := by decide +kernel
theorem dX12_isTaste_17 : decode cX12_isTaste 17 = .ok (.ireturn, 1) := by decide +kernel
theorem dX12_isPot_0 : decode cX12_isPot 0 = .ok (.iload_n 1, 1) := by decide +kernel
theorem dX12_isPot_1 : decode cX12_isPot 1 = .ok (.ifCond .lt 14, 3) := by decide +kernel
theorem dX12_isPot_4 : decode cX12_isPot 4 = .ok (.iload_n 1, 1) := by decide +kernel
theorem dX12_isPot_5 : decode cX12_isPot 5 = .ok (.sipush 9999, 3) := by decide +kernel
theorem dX12_isPot_8 : decode cX12_isPot 8 = .ok (.if_icmp .gt 7, 3) := by decide +kernel
theorem dX12_isPot_11 : decode cX12_isPot 11 = .ok (.iconst 1, 1) := by decide +kernel
theorem dX12_isPot_12 : decode cX12_isPot 12 = .ok (.goto 4, 3) := by decide +kernel
theorem dX12_isPot_15 : decode cX12_isPot 15 = .ok (.iconst 0, 1) := by decide +kernel
theorem dX12_isPot_16 : decode cX12_isPot 16 = .ok (.ireturn, 1) := by decide +kernel
theorem dX12_isCode_0 : decode cX12_isCode 0 = .ok (.iload_n 1, 1) := by decide +kernel
theorem dX12_isCode_1 : decode cX12_isCode 1 = .ok (.ifCond .lt 37, 3) := by decide +kernel
theorem dX12_isCode_4 : decode cX12_isCode 4 = .ok (.iload_n 1, 1) := by decide +kernel
theorem dX12_isCode_5 : decode cX12_isCode 5 = .ok (.bipush 100, 2) := by decide +kernel
theorem dX12_isCode_7 : decode cX12_isCode 7 = .ok (.idiv, 1) := by decide +kernel
theorem dX12_isCode_8 : decode cX12_isCode 8 = .ok (.aload_n 0, 1) := by decide +kernel
theorem dX12_isCode_9 : decode cX12_isCode 9 = .ok (.getfield 102, 3) := by decide +kernel
theorem dX12_isCode_12 : decode cX12_isCode 12 = .ok (.if_icmp .ge 26, 3) := by decide +kernel
theorem dX12_isCode_15 : decode cX12_isCode 15 = .ok (.aload_n 0, 1) := by decide +kernel
theorem dX12_isCode_16 : decode cX12_isCode 16 = .ok (.getfield 18, 3) := by decide +kernel
theorem dX12_isCode_19 : decode cX12_isCode 19 = .ok (.iload_n 1, 1) := by decide +kernel
theorem dX12_isCode_20 : decode cX12_isCode 20 = .ok (.bipush 100, 2) := by decide +kernel
theorem dX12_isCode_22 : decode cX12_isCode 22 = .ok (.idiv, 1) := by decide +kernel
theorem dX12_isCode_23 : decode cX12_isCode 23 = .ok (.aaload, 1) := by decide +kernel
theorem dX12_isCode_24 : decode cX12_isCode 24 = .ok (.iload_n 1, 1) := by decide +kernel
theorem dX12_isCode_25 : decode cX12_isCode 25 = .ok (.bipush 100, 2) := by decide +kernel
theorem dX12_isCode_27 : decode cX12_isCode 27 = .ok (.irem, 1) := by decide +kernel
theorem dX12_isCode_28 : decode cX12_isCode 28 = .ok (.invokevirtual 125, 3) := by decide +kernel
theorem dX12_isCode_31 : decode cX12_isCode 31 = .ok (.ifCond .eq 7, 3) := by decide +kernel
theorem dX12_isCode_34 : decode cX12_isCode 34 = .ok (.iconst 1, 1) := by decide +kernel
theorem dX12_isCode_35 : decode cX12_isCode 35 = .ok (.goto 4, 3) := by decide +kernel
theorem dX12_isCode_38 : decode cX12_isCode 38 = .ok (.iconst 0, 1) := by decide +kernel
theorem dX12_isCode_39 : decode cX12_isCode 39 = .ok (.ireturn, 1) := by decide +kernel
