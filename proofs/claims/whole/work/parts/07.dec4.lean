theorem dX13_ruleOf_111 : decode cX13_ruleOf 111 = .ok (.aload_n 0, 1) := by decide +kernel
theorem dX13_ruleOf_112 : decode cX13_ruleOf 112 = .ok (.getfield 43, 3) := by decide +kernel
theorem dX13_ruleOf_115 : decode cX13_ruleOf 115 = .ok (.iload_n 3, 1) := by decide +kernel
theorem dX13_ruleOf_116 : decode cX13_ruleOf 116 = .ok (.iaload, 1) := by decide +kernel
theorem dX13_ruleOf_117 : decode cX13_ruleOf 117 = .ok (.iastore, 1) := by decide +kernel
theorem dX13_ruleOf_118 : decode cX13_ruleOf 118 = .ok (.aload_n 0, 1) := by decide +kernel
theorem dX13_ruleOf_119 : decode cX13_ruleOf 119 = .ok (.aload_n 0, 1) := by decide +kernel
theorem dX13_ruleOf_120 : decode cX13_ruleOf 120 = .ok (.getfield 60, 3) := by decide +kernel
theorem dX13_ruleOf_123 : decode cX13_ruleOf 123 = .ok (.iconst 1, 1) := by decide +kernel
theorem dX13_ruleOf_124 : decode cX13_ruleOf 124 = .ok (.iaload, 1) := by decide +kernel
theorem dX13_ruleOf_125 : decode cX13_ruleOf 125 = .ok (.invokevirtual 350, 3) := by decide +kernel
theorem dX13_ruleOf_128 : decode cX13_ruleOf 128 = .ok (.ireturn, 1) := by decide +kernel
theorem dX13_choice_0 : decode cX13_choice 0 = .ok (.iconst (-1), 1) := by decide +kernel
theorem dX13_choice_1 : decode cX13_choice 1 = .ok (.istore_n 2, 1) := by decide +kernel
theorem dX13_choice_2 : decode cX13_choice 2 = .ok (.iconst 0, 1) := by decide +kernel
theorem dX13_choice_3 : decode cX13_choice 3 = .ok (.istore_n 3, 1) := by decide +kernel
theorem dX13_choice_4 : decode cX13_choice 4 = .ok (.iconst 0, 1) := by decide +kernel
theorem dX13_choice_5 : decode cX13_choice 5 = .ok (.istore 4, 2) := by decide +kernel
theorem dX13_choice_7 : decode cX13_choice 7 = .ok (.iload 4, 2) := by decide +kernel
theorem dX13_choice_9 : decode cX13_choice 9 = .ok (.aload_n 0, 1) := by decide +kernel
theorem dX13_choice_10 : decode cX13_choice 10 = .ok (.getfield 40, 3) := by decide +kernel
theorem dX13_choice_13 : decode cX13_choice 13 = .ok (.aload_n 0, 1) := by decide +kernel
theorem dX13_choice_14 : decode cX13_choice 14 = .ok (.aload_n 0, 1) := by decide +kernel
theorem dX13_choice_15 : decode cX13_choice 15 = .ok (.getfield 52, 3) := by decide +kernel
theorem dX13_choice_18 : decode cX13_choice 18 = .ok (.iload_n 1, 1) := by decide +kernel
theorem dX13_choice_19 : decode cX13_choice 19 = .ok (.invokevirtual 249, 3) := by decide +kernel
theorem dX13_choice_22 : decode cX13_choice 22 = .ok (.iconst 2, 1) := by decide +kernel
theorem dX13_choice_23 : decode cX13_choice 23 = .ok (.iadd, 1) := by decide +kernel
theorem dX13_choice_24 : decode cX13_choice 24 = .ok (.iaload, 1) := by decide +kernel
theorem dX13_choice_25 : decode cX13_choice 25 = .ok (.if_icmp .ge 95, 3) := by decide +kernel
theorem dX13_choice_28 : decode cX13_choice 28 = .ok (.aload_n 0, 1) := by decide +kernel
theorem dX13_choice_29 : decode cX13_choice 29 = .ok (.getfield 56, 3) := by decide +kernel
theorem dX13_choice_32 : decode cX13_choice 32 = .ok (.iconst 4, 1) := by decide +kernel
theorem dX13_choice_33 : decode cX13_choice 33 = .ok (.iload_n 1, 1) := by decide +kernel
theorem dX13_choice_34 : decode cX13_choice 34 = .ok (.imul, 1) := by decide +kernel
theorem dX13_choice_35 : decode cX13_choice 35 = .ok (.iload 4, 2) := by decide +kernel
theorem dX13_choice_37 : decode cX13_choice 37 = .ok (.iadd, 1) := by decide +kernel
theorem dX13_choice_38 : decode cX13_choice 38 = .ok (.baload, 1) := by decide +kernel
theorem dX13_choice_39 : decode cX13_choice 39 = .ok (.ifCond .ne 6, 3) := by decide +kernel
theorem dX13_choice_42 : decode cX13_choice 42 = .ok (.goto 72, 3) := by decide +kernel
theorem dX13_choice_45 : decode cX13_choice 45 = .ok (.aload_n 0, 1) := by decide +kernel
theorem dX13_choice_46 : decode cX13_choice 46 = .ok (.getfield 60, 3) := by decide +kernel
theorem dX13_choice_49 : decode cX13_choice 49 = .ok (.iconst 0, 1) := by decide +kernel
theorem dX13_choice_50 : decode cX13_choice 50 = .ok (.iaload, 1) := by decide +kernel
theorem dX13_choice_51 : decode cX13_choice 51 = .ok (.iconst 2, 1) := by decide +kernel
theorem dX13_choice_52 : decode cX13_choice 52 = .ok (.if_icmp .ne 8, 3) := by decide +kernel
theorem dX13_choice_55 : decode cX13_choice 55 = .ok (.iload 4, 2) := by decide +kernel
theorem dX13_choice_57 : decode cX13_choice 57 = .ok (.goto 35, 3) := by decide +kernel
theorem dX13_choice_60 : decode cX13_choice 60 = .ok (.aload_n 0, 1) := by decide +kernel
theorem dX13_choice_61 : decode cX13_choice 61 = .ok (.getfield 60, 3) := by decide +kernel
theorem dX13_choice_64 : decode cX13_choice 64 = .ok (.iconst 0, 1) := by decide +kernel
theorem dX13_choice_65 : decode cX13_choice 65 = .ok (.iaload, 1) := by decide +kernel
theorem dX13_choice_66 : decode cX13_choice 66 = .ok (.ifCond .ne 23, 3) := by decide +kernel
theorem dX13_choice_69 : decode cX13_choice 69 = .ok (.aload_n 0, 1) := by decide +kernel
theorem dX13_choice_70 : decode cX13_choice 70 = .ok (.getfield 60, 3) := by decide +kernel
theorem dX13_choice_73 : decode cX13_choice 73 = .ok (.iconst 1, 1) := by decide +kernel
theorem dX13_choice_74 : decode cX13_choice 74 = .ok (.iaload, 1) := by decide +kernel
theorem dX13_choice_75 : decode cX13_choice 75 = .ok (.iconst (-1), 1) := by decide +kernel
theorem dX13_choice_76 : decode cX13_choice 76 = .ok (.if_icmp .eq 13, 3) := by decide +kernel
theorem dX13_choice_79 : decode cX13_choice 79 = .ok (.aload_n 0, 1) := by decide +kernel
theorem dX13_choice_80 : decode cX13_choice 80 = .ok (.iload_n 1, 1) := by decide +kernel
theorem dX13_choice_81 : decode cX13_choice 81 = .ok (.iload 4, 2) := by decide +kernel
theorem dX13_choice_83 : decode cX13_choice 83 = .ok (.invokevirtual 353, 3) := by decide +kernel
theorem dX13_choice_86 : decode cX13_choice 86 = .ok (.goto 6, 3) := by decide +kernel
theorem dX13_choice_89 : decode cX13_choice 89 = .ok (.iload 4, 2) := by decide +kernel
theorem dX13_choice_91 : decode cX13_choice 91 = .ok (.ineg, 1) := by decide +kernel
theorem dX13_choice_92 : decode cX13_choice 92 = .ok (.istore 5, 2) := by decide +kernel
theorem dX13_choice_94 : decode cX13_choice 94 = .ok (.iload_n 2, 1) := by decide +kernel
theorem dX13_choice_95 : decode cX13_choice 95 = .ok (.iconst (-1), 1) := by decide +kernel
theorem dX13_choice_96 : decode cX13_choice 96 = .ok (.if_icmp .eq 12, 3) := by decide +kernel
theorem dX13_choice_99 : decode cX13_choice 99 = .ok (.iload 5, 2) := by decide +kernel
theorem dX13_choice_101 : decode cX13_choice 101 = .ok (.iload_n 3, 1) := by decide +kernel
theorem dX13_choice_102 : decode cX13_choice 102 = .ok (.if_icmp .gt 6, 3) := by decide +kernel
theorem dX13_choice_105 : decode cX13_choice 105 = .ok (.goto 9, 3) := by decide +kernel
theorem dX13_choice_108 : decode cX13_choice 108 = .ok (.iload 4, 2) := by decide +kernel
theorem dX13_choice_110 : decode cX13_choice 110 = .ok (.istore_n 2, 1) := by decide +kernel
theorem dX13_choice_111 : decode cX13_choice 111 = .ok (.iload 5, 2) := by decide +kernel
theorem dX13_choice_113 : decode cX13_choice 113 = .ok (.istore_n 3, 1) := by decide +kernel
theorem dX13_choice_114 : decode cX13_choice 114 = .ok (.iinc 4 1, 3) := by decide +kernel
theorem dX13_choice_117 : decode cX13_choice 117 = .ok (.goto (-110), 3) := by decide +kernel
theorem dX13_choice_120 : decode cX13_choice 120 = .ok (.iload_n 2, 1) := by decide +kernel
theorem dX13_choice_121 : decode cX13_choice 121 = .ok (.ireturn, 1) := by decide +kernel
theorem dX13_weights_0 : decode cX13_weights 0 = .ok (.iconst 0, 1) := by decide +kernel
theorem dX13_weights_1 : decode cX13_weights 1 = .ok (.istore_n 2, 1) := by decide +kernel
theorem dX13_weights_2 : decode cX13_weights 2 = .ok (.iconst 0, 1) := by decide +kernel
theorem dX13_weights_3 : decode cX13_weights 3 = .ok (.istore_n 3, 1) := by decide +kernel
theorem dX13_weights_4 : decode cX13_weights 4 = .ok (.iload_n 3, 1) := by decide +kernel
theorem dX13_weights_5 : decode cX13_weights 5 = .ok (.aload_n 0, 1) := by decide +kernel
theorem dX13_weights_6 : decode cX13_weights 6 = .ok (.getfield 40, 3) := by decide +kernel
theorem dX13_weights_9 : decode cX13_weights 9 = .ok (.aload_n 0, 1) := by decide +kernel
theorem dX13_weights_10 : decode cX13_weights 10 = .ok (.aload_n 0, 1) := by decide +kernel
theorem dX13_weights_11 : decode cX13_weights 11 = .ok (.getfield 52, 3) := by decide +kernel
theorem dX13_weights_14 : decode cX13_weights 14 = .ok (.iload_n 1, 1) := by decide +kernel
theorem dX13_weights_15 : decode cX13_weights 15 = .ok (.invokevirtual 249, 3) := by decide +kernel
theorem dX13_weights_18 : decode cX13_weights 18 = .ok (.iconst 2, 1) := by decide +kernel
theorem dX13_weights_19 : decode cX13_weights 19 = .ok (.iadd, 1) := by decide +kernel
theorem dX13_weights_20 : decode cX13_weights 20 = .ok (.iaload, 1) := by decide +kernel
theorem dX13_weights_21 : decode cX13_weights 21 = .ok (.if_icmp .ge 44, 3) := by decide +kernel
theorem dX13_weights_24 : decode cX13_weights 24 = .ok (.iload_n 2, 1) := by decide +kernel
theorem dX13_weights_25 : decode cX13_weights 25 = .ok (.aload_n 0, 1) := by decide +kernel
theorem dX13_weights_26 : decode cX13_weights 26 = .ok (.getfield 56, 3) := by decide +kernel
theorem dX13_weights_29 : decode cX13_weights 29 = .ok (.iconst 4, 1) := by decide +kernel
theorem dX13_weights_30 : decode cX13_weights 30 = .ok (.iload_n 1, 1) := by decide +kernel
theorem dX13_weights_31 : decode cX13_weights 31 = .ok (.imul, 1) := by decide +kernel
theorem dX13_weights_32 : decode cX13_weights 32 = .ok (.iload_n 3, 1) := by decide +kernel
theorem dX13_weights_33 : decode cX13_weights 33 = .ok (.iadd, 1) := by decide +kernel
theorem dX13_weights_34 : decode cX13_weights 34 = .ok (.baload, 1) := by decide +kernel
theorem dX13_weights_35 : decode cX13_weights 35 = .ok (.ifCond .eq 21, 3) := by decide +kernel
theorem dX13_weights_38 : decode cX13_weights 38 = .ok (.aload_n 0, 1) := by decide +kernel
theorem dX13_weights_39 : decode cX13_weights 39 = .ok (.getfield 43, 3) := by decide +kernel
theorem dX13_weights_42 : decode cX13_weights 42 = .ok (.aload_n 0, 1) := by decide +kernel
theorem dX13_weights_43 : decode cX13_weights 43 = .ok (.aload_n 0, 1) := by decide +kernel
theorem dX13_weights_44 : decode cX13_weights 44 = .ok (.getfield 52, 3) := by decide +kernel
theorem dX13_weights_47 : decode cX13_weights 47 = .ok (.iload_n 1, 1) := by decide +kernel
theorem dX13_weights_48 : decode cX13_weights 48 = .ok (.iload_n 3, 1) := by decide +kernel
theorem dX13_weights_49 : decode cX13_weights 49 = .ok (.invokevirtual 262, 3) := by decide +kernel
theorem dX13_weights_52 : decode cX13_weights 52 = .ok (.iaload, 1) := by decide +kernel
theorem dX13_weights_53 : decode cX13_weights 53 = .ok (.goto 4, 3) := by decide +kernel
theorem dX13_weights_56 : decode cX13_weights 56 = .ok (.iconst 0, 1) := by decide +kernel
theorem dX13_weights_57 : decode cX13_weights 57 = .ok (.iadd, 1) := by decide +kernel
theorem dX13_weights_58 : decode cX13_weights 58 = .ok (.istore_n 2, 1) := by decide +kernel
theorem dX13_weights_59 : decode cX13_weights 59 = .ok (.iinc 3 1, 3) := by decide +kernel
theorem dX13_weights_62 : decode cX13_weights 62 = .ok (.goto (-58), 3) := by decide +kernel
theorem dX13_weights_65 : decode cX13_weights 65 = .ok (.iload_n 2, 1) := by decide +kernel
theorem dX13_weights_66 : decode cX13_weights 66 = .ok (.ireturn, 1) := by decide +kernel
theorem dX13_oddsOf_0 : decode cX13_oddsOf 0 = .ok (.aload_n 0, 1) := by decide +kernel
theorem dX13_oddsOf_1 : decode cX13_oddsOf 1 = .ok (.aload_n 0, 1) := by decide +kernel
theorem dX13_oddsOf_2 : decode cX13_oddsOf 2 = .ok (.getfield 52, 3) := by decide +kernel
theorem dX13_oddsOf_5 : decode cX13_oddsOf 5 = .ok (.iload_n 1, 1) := by decide +kernel
theorem dX13_oddsOf_6 : decode cX13_oddsOf 6 = .ok (.invokevirtual 310, 3) := by decide +kernel
theorem dX13_oddsOf_9 : decode cX13_oddsOf 9 = .ok (.ldc2_w 356, 3) := by decide +kernel
theorem dX13_oddsOf_12 : decode cX13_oddsOf 12 = .ok (.lstore_n 2, 1) := by decide +kernel
theorem dX13_oddsOf_13 : decode cX13_oddsOf 13 = .ok (.iconst 0, 1) := by decide +kernel
theorem dX13_oddsOf_14 : decode cX13_oddsOf 14 = .ok (.istore 4, 2) := by decide +kernel
theorem dX13_oddsOf_16 : decode cX13_oddsOf 16 = .ok (.iload 4, 2) := by decide +kernel
theorem dX13_oddsOf_18 : decode cX13_oddsOf 18 = .ok (.aload_n 0, 1) := by decide +kernel
theorem dX13_oddsOf_19 : decode cX13_oddsOf 19 = .ok (.getfield 307, 3) := by decide +kernel
theorem dX13_oddsOf_22 : decode cX13_oddsOf 22 = .ok (.if_icmp .ge 137, 3) := by decide +kernel
theorem dX13_oddsOf_25 : decode cX13_oddsOf 25 = .ok (.aload_n 0, 1) := by decide +kernel
theorem dX13_oddsOf_26 : decode cX13_oddsOf 26 = .ok (.getfield 63, 3) := by decide +kernel
theorem dX13_oddsOf_29 : decode cX13_oddsOf 29 = .ok (.iload 4, 2) := by decide +kernel
theorem dX13_oddsOf_31 : decode cX13_oddsOf 31 = .ok (.iaload, 1) := by decide +kernel
theorem dX13_oddsOf_32 : decode cX13_oddsOf 32 = .ok (.istore 5, 2) := by decide +kernel
theorem dX13_oddsOf_34 : decode cX13_oddsOf 34 = .ok (.aload_n 0, 1) := by decide +kernel
theorem dX13_oddsOf_35 : decode cX13_oddsOf 35 = .ok (.getfield 66, 3) := by decide +kernel
theorem dX13_oddsOf_38 : decode cX13_oddsOf 38 = .ok (.iload 4, 2) := by decide +kernel
theorem dX13_oddsOf_40 : decode cX13_oddsOf 40 = .ok (.iaload, 1) := by decide +kernel
theorem dX13_oddsOf_41 : decode cX13_oddsOf 41 = .ok (.istore 6, 2) := by decide +kernel
theorem dX13_oddsOf_43 : decode cX13_oddsOf 43 = .ok (.aload_n 0, 1) := by decide +kernel
theorem dX13_oddsOf_44 : decode cX13_oddsOf 44 = .ok (.getfield 56, 3) := by decide +kernel
theorem dX13_oddsOf_47 : decode cX13_oddsOf 47 = .ok (.iconst 4, 1) := by decide +kernel
theorem dX13_oddsOf_48 : decode cX13_oddsOf 48 = .ok (.iload 5, 2) := by decide +kernel
theorem dX13_oddsOf_50 : decode cX13_oddsOf 50 = .ok (.imul, 1) := by decide +kernel
theorem dX13_oddsOf_51 : decode cX13_oddsOf 51 = .ok (.iload 6, 2) := by decide +kernel
theorem dX13_oddsOf_53 : decode cX13_oddsOf 53 = .ok (.iadd, 1) := by decide +kernel
theorem dX13_oddsOf_54 : decode cX13_oddsOf 54 = .ok (.baload, 1) := by decide +kernel
theorem dX13_oddsOf_55 : decode cX13_oddsOf 55 = .ok (.ifCond .ne 5, 3) := by decide +kernel
theorem dX13_oddsOf_58 : decode cX13_oddsOf 58 = .ok (.iconst 0, 1) := by decide +kernel
theorem dX13_oddsOf_59 : decode cX13_oddsOf 59 = .ok (.ireturn, 1) := by decide +kernel
theorem dX13_oddsOf_60 : decode cX13_oddsOf 60 = .ok (.aload_n 0, 1) := by decide +kernel
theorem dX13_oddsOf_61 : decode cX13_oddsOf 61 = .ok (.getfield 40, 3) := by decide +kernel
theorem dX13_oddsOf_64 : decode cX13_oddsOf 64 = .ok (.aload_n 0, 1) := by decide +kernel
theorem dX13_oddsOf_65 : decode cX13_oddsOf 65 = .ok (.aload_n 0, 1) := by decide +kernel
theorem dX13_oddsOf_66 : decode cX13_oddsOf 66 = .ok (.getfield 52, 3) := by decide +kernel
theorem dX13_oddsOf_69 : decode cX13_oddsOf 69 = .ok (.iload 5, 2) := by decide +kernel
theorem dX13_oddsOf_71 : decode cX13_oddsOf 71 = .ok (.invokevirtual 249, 3) := by decide +kernel
theorem dX13_oddsOf_74 : decode cX13_oddsOf 74 = .ok (.iconst 1, 1) := by decide +kernel
theorem dX13_oddsOf_75 : decode cX13_oddsOf 75 = .ok (.iadd, 1) := by decide +kernel
theorem dX13_oddsOf_76 : decode cX13_oddsOf 76 = .ok (.iaload, 1) := by decide +kernel
theorem dX13_oddsOf_77 : decode cX13_oddsOf 77 = .ok (.iconst 1, 1) := by decide +kernel
theorem dX13_oddsOf_78 : decode cX13_oddsOf 78 = .ok (.if_icmp .ne 35, 3) := by decide +kernel
theorem dX13_oddsOf_81 : decode cX13_oddsOf 81 = .ok (.lload_n 2, 1) := by decide +kernel
theorem dX13_oddsOf_82 : decode cX13_oddsOf 82 = .ok (.aload_n 0, 1) := by decide +kernel
theorem dX13_oddsOf_83 : decode cX13_oddsOf 83 = .ok (.getfield 43, 3) := by decide +kernel
theorem dX13_oddsOf_86 : decode cX13_oddsOf 86 = .ok (.aload_n 0, 1) := by decide +kernel
theorem dX13_oddsOf_87 : decode cX13_oddsOf 87 = .ok (.aload_n 0, 1) := by decide +kernel
theorem dX13_oddsOf_88 : decode cX13_oddsOf 88 = .ok (.getfield 52, 3) := by decide +kernel
theorem dX13_oddsOf_91 : decode cX13_oddsOf 91 = .ok (.iload 5, 2) := by decide +kernel
theorem dX13_oddsOf_93 : decode cX13_oddsOf 93 = .ok (.iload 6, 2) := by decide +kernel
theorem dX13_oddsOf_95 : decode cX13_oddsOf 95 = .ok (.invokevirtual 262, 3) := by decide +kernel
theorem dX13_oddsOf_98 : decode cX13_oddsOf 98 = .ok (.iaload, 1) := by decide +kernel
theorem dX13_oddsOf_99 : decode cX13_oddsOf 99 = .ok (.i2l, 1) := by decide +kernel
theorem dX13_oddsOf_100 : decode cX13_oddsOf 100 = .ok (.lmul, 1) := by decide +kernel
theorem dX13_oddsOf_101 : decode cX13_oddsOf 101 = .ok (.aload_n 0, 1) := by decide +kernel
theorem dX13_oddsOf_102 : decode cX13_oddsOf 102 = .ok (.iload 5, 2) := by decide +kernel
theorem dX13_oddsOf_104 : decode cX13_oddsOf 104 = .ok (.invokevirtual 358, 3) := by decide +kernel
theorem dX13_oddsOf_107 : decode cX13_oddsOf 107 = .ok (.i2l, 1) := by decide +kernel
theorem dX13_oddsOf_108 : decode cX13_oddsOf 108 = .ok (.ldiv, 1) := by decide +kernel
theorem dX13_oddsOf_109 : decode cX13_oddsOf 109 = .ok (.lstore_n 2, 1) := by decide +kernel
theorem dX13_oddsOf_110 : decode cX13_oddsOf 110 = .ok (.goto 43, 3) := by decide +kernel
theorem dX13_oddsOf_113 : decode cX13_oddsOf 113 = .ok (.aload_n 0, 1) := by decide +kernel
theorem dX13_oddsOf_114 : decode cX13_oddsOf 114 = .ok (.getfield 60, 3) := by decide +kernel
theorem dX13_oddsOf_117 : decode cX13_oddsOf 117 = .ok (.iconst 0, 1) := by decide +kernel
theorem dX13_oddsOf_118 : decode cX13_oddsOf 118 = .ok (.iaload, 1) := by decide +kernel
theorem dX13_oddsOf_119 : decode cX13_oddsOf 119 = .ok (.iconst 3, 1) := by decide +kernel
theorem dX13_oddsOf_120 : decode cX13_oddsOf 120 = .ok (.if_icmp .ne 16, 3) := by decide +kernel
theorem dX13_oddsOf_123 : decode cX13_oddsOf 123 = .ok (.lload_n 2, 1) := by decide +kernel
theorem dX13_oddsOf_124 : decode cX13_oddsOf 124 = .ok (.aload_n 0, 1) := by decide +kernel
theorem dX13_oddsOf_125 : decode cX13_oddsOf 125 = .ok (.iload 5, 2) := by decide +kernel
theorem dX13_oddsOf_127 : decode cX13_oddsOf 127 = .ok (.invokevirtual 329, 3) := by decide +kernel
theorem dX13_oddsOf_130 : decode cX13_oddsOf 130 = .ok (.i2l, 1) := by decide +kernel
theorem dX13_oddsOf_131 : decode cX13_oddsOf 131 = .ok (.ldiv, 1) := by decide +kernel
theorem dX13_oddsOf_132 : decode cX13_oddsOf 132 = .ok (.lstore_n 2, 1) := by decide +kernel
theorem dX13_oddsOf_133 : decode cX13_oddsOf 133 = .ok (.goto 20, 3) := by decide +kernel
theorem dX13_oddsOf_136 : decode cX13_oddsOf 136 = .ok (.aload_n 0, 1) := by decide +kernel
theorem dX13_oddsOf_137 : decode cX13_oddsOf 137 = .ok (.iload 5, 2) := by decide +kernel
theorem dX13_oddsOf_139 : decode cX13_oddsOf 139 = .ok (.invokevirtual 361, 3) := by decide +kernel
theorem dX13_oddsOf_142 : decode cX13_oddsOf 142 = .ok (.iload 6, 2) := by decide +kernel
theorem dX13_oddsOf_144 : decode cX13_oddsOf 144 = .ok (.if_icmp .ne 7, 3) := by decide +kernel
theorem dX13_oddsOf_147 : decode cX13_oddsOf 147 = .ok (.lload_n 2, 1) := by decide +kernel
theorem dX13_oddsOf_148 : decode cX13_oddsOf 148 = .ok (.goto 4, 3) := by decide +kernel
theorem dX13_oddsOf_151 : decode cX13_oddsOf 151 = .ok (.lconst 0, 1) := by decide +kernel
theorem dX13_oddsOf_152 : decode cX13_oddsOf 152 = .ok (.lstore_n 2, 1) := by decide +kernel
theorem dX13_oddsOf_153 : decode cX13_oddsOf 153 = .ok (.iinc 4 1, 3) := by decide +kernel
theorem dX13_oddsOf_156 : decode cX13_oddsOf 156 = .ok (.goto (-140), 3) := by decide +kernel
theorem dX13_oddsOf_159 : decode cX13_oddsOf 159 = .ok (.lload_n 2, 1) := by decide +kernel
theorem dX13_oddsOf_160 : decode cX13_oddsOf 160 = .ok (.l2i, 1) := by decide +kernel
theorem dX13_oddsOf_161 : decode cX13_oddsOf 161 = .ok (.ireturn, 1) := by decide +kernel
theorem dX13_odds_0 : decode cX13_odds 0 = .ok (.aload_n 0, 1) := by decide +kernel
theorem dX13_odds_1 : decode cX13_odds 1 = .ok (.iconst 0, 1) := by decide +kernel
theorem dX13_odds_2 : decode cX13_odds 2 = .ok (.putfield 102, 3) := by decide +kernel
theorem dX13_odds_5 : decode cX13_odds 5 = .ok (.aload_n 0, 1) := by decide +kernel
theorem dX13_odds_6 : decode cX13_odds 6 = .ok (.iload_n 1, 1) := by decide +kernel
theorem dX13_odds_7 : decode cX13_odds 7 = .ok (.invokevirtual 313, 3) := by decide +kernel
theorem dX13_odds_10 : decode cX13_odds 10 = .ok (.ifCond .eq 11, 3) := by decide +kernel
theorem dX13_odds_13 : decode cX13_odds 13 = .ok (.aload_n 0, 1) := by decide +kernel
theorem dX13_odds_14 : decode cX13_odds 14 = .ok (.iload_n 1, 1) := by decide +kernel
theorem dX13_odds_15 : decode cX13_odds 15 = .ok (.invokevirtual 364, 3) := by decide +kernel
theorem dX13_odds_18 : decode cX13_odds 18 = .ok (.goto 4, 3) := by decide +kernel
theorem dX13_odds_21 : decode cX13_odds 21 = .ok (.iconst (-1), 1) := by decide +kernel
theorem dX13_odds_22 : decode cX13_odds 22 = .ok (.ireturn, 1) := by decide +kernel
theorem dX13_layLetters_0 : decode cX13_layLetters 0 = .ok (.aload_n 0, 1) := by decide +kernel
theorem dX13_layLetters_1 : decode cX13_layLetters 1 = .ok (.getfield 20, 3) := by decide +kernel
theorem dX13_layLetters_4 : decode cX13_layLetters 4 = .ok (.bipush 103, 2) := by decide +kernel
theorem dX13_layLetters_6 : decode cX13_layLetters 6 = .ok (.aload_n 0, 1) := by decide +kernel
theorem dX13_layLetters_7 : decode cX13_layLetters 7 = .ok (.iload_n 1, 1) := by decide +kernel
theorem dX13_layLetters_8 : decode cX13_layLetters 8 = .ok (.iconst 0, 1) := by decide +kernel
theorem dX13_layLetters_9 : decode cX13_layLetters 9 = .ok (.invokevirtual 318, 3) := by decide +kernel
theorem dX13_layLetters_12 : decode cX13_layLetters 12 = .ok (.iastore, 1) := by decide +kernel
theorem dX13_layLetters_13 : decode cX13_layLetters 13 = .ok (.aload_n 0, 1) := by decide +kernel
theorem dX13_layLetters_14 : decode cX13_layLetters 14 = .ok (.getfield 20, 3) := by decide +kernel
theorem dX13_layLetters_17 : decode cX13_layLetters 17 = .ok (.bipush 106, 2) := by decide +kernel
theorem dX13_layLetters_19 : decode cX13_layLetters 19 = .ok (.aload_n 0, 1) := by decide +kernel
theorem dX13_layLetters_20 : decode cX13_layLetters 20 = .ok (.iload_n 1, 1) := by decide +kernel
theorem dX13_layLetters_21 : decode cX13_layLetters 21 = .ok (.iconst 1, 1) := by decide +kernel
theorem dX13_layLetters_22 : decode cX13_layLetters 22 = .ok (.invokevirtual 318, 3) := by decide +kernel
theorem dX13_layLetters_25 : decode cX13_layLetters 25 = .ok (.iastore, 1) := by decide +kernel
theorem dX13_layLetters_26 : decode cX13_layLetters 26 = .ok (.aload_n 0, 1) := by decide +kernel
theorem dX13_layLetters_27 : decode cX13_layLetters 27 = .ok (.getfield 20, 3) := by decide +kernel
theorem dX13_layLetters_30 : decode cX13_layLetters 30 = .ok (.bipush 111, 2) := by decide +kernel
theorem dX13_layLetters_32 : decode cX13_layLetters 32 = .ok (.aload_n 0, 1) := by decide +kernel
theorem dX13_layLetters_33 : decode cX13_layLetters 33 = .ok (.iload_n 1, 1) := by decide +kernel
theorem dX13_layLetters_34 : decode cX13_layLetters 34 = .ok (.iconst 2, 1) := by decide +kernel
theorem dX13_layLetters_35 : decode cX13_layLetters 35 = .ok (.invokevirtual 318, 3) := by decide +kernel
theorem dX13_layLetters_38 : decode cX13_layLetters 38 = .ok (.iastore, 1) := by decide +kernel
theorem dX13_layLetters_39 : decode cX13_layLetters 39 = .ok (.aload_n 0, 1) := by decide +kernel
theorem dX13_layLetters_40 : decode cX13_layLetters 40 = .ok (.getfield 20, 3) := by decide +kernel
theorem dX13_layLetters_43 : decode cX13_layLetters 43 = .ok (.bipush 121, 2) := by decide +kernel
theorem dX13_layLetters_45 : decode cX13_layLetters 45 = .ok (.aload_n 0, 1) := by decide +kernel
theorem dX13_layLetters_46 : decode cX13_layLetters 46 = .ok (.getfield 37, 3) := by decide +kernel
theorem dX13_layLetters_49 : decode cX13_layLetters 49 = .ok (.aload_n 0, 1) := by decide +kernel
theorem dX13_layLetters_50 : decode cX13_layLetters 50 = .ok (.aload_n 0, 1) := by decide +kernel
theorem dX13_layLetters_51 : decode cX13_layLetters 51 = .ok (.getfield 52, 3) := by decide +kernel
theorem dX13_layLetters_54 : decode cX13_layLetters 54 = .ok (.iload_n 1, 1) := by decide +kernel
theorem dX13_layLetters_55 : decode cX13_layLetters 55 = .ok (.invokevirtual 235, 3) := by decide +kernel
theorem dX13_layLetters_58 : decode cX13_layLetters 58 = .ok (.iconst 2, 1) := by decide +kernel
theorem dX13_layLetters_59 : decode cX13_layLetters 59 = .ok (.iadd, 1) := by decide +kernel
theorem dX13_layLetters_60 : decode cX13_layLetters 60 = .ok (.iaload, 1) := by decide +kernel
theorem dX13_layLetters_61 : decode cX13_layLetters 61 = .ok (.iastore, 1) := by decide +kernel
theorem dX13_layLetters_62 : decode cX13_layLetters 62 = .ok (.aload_n 0, 1) := by decide +kernel
theorem dX13_layLetters_63 : decode cX13_layLetters 63 = .ok (.getfield 20, 3) := by decide +kernel
theorem dX13_layLetters_66 : decode cX13_layLetters 66 = .ok (.bipush 100, 2) := by decide +kernel
theorem dX13_layLetters_68 : decode cX13_layLetters 68 = .ok (.aload_n 0, 1) := by decide +kernel
theorem dX13_layLetters_69 : decode cX13_layLetters 69 = .ok (.iload_n 1, 1) := by decide +kernel
theorem dX13_layLetters_70 : decode cX13_layLetters 70 = .ok (.invokevirtual 367, 3) := by decide +kernel
theorem dX13_layLetters_73 : decode cX13_layLetters 73 = .ok (.iastore, 1) := by decide +kernel
theorem dX13_layLetters_74 : decode cX13_layLetters 74 = .ok (.aload_n 0, 1) := by decide +kernel
theorem dX13_layLetters_75 : decode cX13_layLetters 75 = .ok (.getfield 20, 3) := by decide +kernel
theorem dX13_layLetters_78 : decode cX13_layLetters 78 = .ok (.bipush 116, 2) := by decide +kernel
theorem dX13_layLetters_80 : decode cX13_layLetters 80 = .ok (.aload_n 0, 1) := by decide +kernel
theorem dX13_layLetters_81 : decode cX13_layLetters 81 = .ok (.getfield 37, 3) := by decide +kernel
theorem dX13_layLetters_84 : decode cX13_layLetters 84 = .ok (.aload_n 0, 1) := by decide +kernel
theorem dX13_layLetters_85 : decode cX13_layLetters 85 = .ok (.aload_n 0, 1) := by decide +kernel
theorem dX13_layLetters_86 : decode cX13_layLetters 86 = .ok (.getfield 52, 3) := by decide +kernel
theorem dX13_layLetters_89 : decode cX13_layLetters 89 = .ok (.iload_n 1, 1) := by decide +kernel
theorem dX13_layLetters_90 : decode cX13_layLetters 90 = .ok (.invokevirtual 235, 3) := by decide +kernel
theorem dX13_layLetters_93 : decode cX13_layLetters 93 = .ok (.iconst 4, 1) := by decide +kernel
theorem dX13_layLetters_94 : decode cX13_layLetters 94 = .ok (.iadd, 1) := by decide +kernel
theorem dX13_layLetters_95 : decode cX13_layLetters 95 = .ok (.iaload, 1) := by decide +kernel
theorem dX13_layLetters_96 : decode cX13_layLetters 96 = .ok (.iastore, 1) := by decide +kernel
theorem dX13_layLetters_97 : decode cX13_layLetters 97 = .ok (.aload_n 0, 1) := by decide +kernel
theorem dX13_layLetters_98 : decode cX13_layLetters 98 = .ok (.getfield 20, 3) := by decide +kernel
theorem dX13_layLetters_101 : decode cX13_layLetters 101 = .ok (.bipush 98, 2) := by decide +kernel
theorem dX13_layLetters_103 : decode cX13_layLetters 103 = .ok (.iconst 0, 1) := by decide +kernel
theorem dX13_layLetters_104 : decode cX13_layLetters 104 = .ok (.iastore, 1) := by decide +kernel
theorem dX13_layLetters_105 : decode cX13_layLetters 105 = .ok (.aload_n 0, 1) := by decide +kernel
theorem dX13_layLetters_106 : decode cX13_layLetters 106 = .ok (.getfield 20, 3) := by decide +kernel
theorem dX13_layLetters_109 : decode cX13_layLetters 109 = .ok (.bipush 119, 2) := by decide +kernel
theorem dX13_layLetters_111 : decode cX13_layLetters 111 = .ok (.iconst 0, 1) := by decide +kernel
theorem dX13_layLetters_112 : decode cX13_layLetters 112 = .ok (.iastore, 1) := by decide +kernel
theorem dX13_layLetters_113 : decode cX13_layLetters 113 = .ok (.return_, 1) := by decide +kernel
theorem dX13_worthOf_0 : decode cX13_worthOf 0 = .ok (.aload_n 0, 1) := by decide +kernel
theorem dX13_worthOf_1 : decode cX13_worthOf 1 = .ok (.getfield 60, 3) := by decide +kernel
theorem dX13_worthOf_4 : decode cX13_worthOf 4 = .ok (.iconst 2, 1) := by decide +kernel
theorem dX13_worthOf_5 : decode cX13_worthOf 5 = .ok (.iaload, 1) := by decide +kernel
theorem dX13_worthOf_6 : decode cX13_worthOf 6 = .ok (.iconst (-1), 1) := by decide +kernel
theorem dX13_worthOf_7 : decode cX13_worthOf 7 = .ok (.if_icmp .ne 24, 3) := by decide +kernel
theorem dX13_worthOf_10 : decode cX13_worthOf 10 = .ok (.aload_n 0, 1) := by decide +kernel
theorem dX13_worthOf_11 : decode cX13_worthOf 11 = .ok (.iload_n 1, 1) := by decide +kernel
theorem dX13_worthOf_12 : decode cX13_worthOf 12 = .ok (.iconst 1, 1) := by decide +kernel
theorem dX13_worthOf_13 : decode cX13_worthOf 13 = .ok (.invokevirtual 318, 3) := by decide +kernel
theorem dX13_worthOf_16 : decode cX13_worthOf 16 = .ok (.aload_n 0, 1) := by decide +kernel
theorem dX13_worthOf_17 : decode cX13_worthOf 17 = .ok (.iload_n 1, 1) := by decide +kernel
theorem dX13_worthOf_18 : decode cX13_worthOf 18 = .ok (.iconst 0, 1) := by decide +kernel
theorem dX13_worthOf_19 : decode cX13_worthOf 19 = .ok (.invokevirtual 318, 3) := by decide +kernel
theorem dX13_worthOf_22 : decode cX13_worthOf 22 = .ok (.iadd, 1) := by decide +kernel
theorem dX13_worthOf_23 : decode cX13_worthOf 23 = .ok (.aload_n 0, 1) := by decide +kernel
theorem dX13_worthOf_24 : decode cX13_worthOf 24 = .ok (.iload_n 1, 1) := by decide +kernel
theorem dX13_worthOf_25 : decode cX13_worthOf 25 = .ok (.iconst 2, 1) := by decide +kernel
theorem dX13_worthOf_26 : decode cX13_worthOf 26 = .ok (.invokevirtual 318, 3) := by decide +kernel
theorem dX13_worthOf_29 : decode cX13_worthOf 29 = .ok (.isub, 1) := by decide +kernel
theorem dX13_worthOf_30 : decode cX13_worthOf 30 = .ok (.ireturn, 1) := by decide +kernel
theorem dX13_worthOf_31 : decode cX13_worthOf 31 = .ok (.aload_n 0, 1) := by decide +kernel
theorem dX13_worthOf_32 : decode cX13_worthOf 32 = .ok (.iload_n 1, 1) := by decide +kernel
theorem dX13_worthOf_33 : decode cX13_worthOf 33 = .ok (.invokevirtual 370, 3) := by decide +kernel
theorem dX13_worthOf_36 : decode cX13_worthOf 36 = .ok (.aload_n 0, 1) := by decide +kernel
theorem dX13_worthOf_37 : decode cX13_worthOf 37 = .ok (.aload_n 0, 1) := by decide +kernel
theorem dX13_worthOf_38 : decode cX13_worthOf 38 = .ok (.getfield 60, 3) := by decide +kernel
theorem dX13_worthOf_41 : decode cX13_worthOf 41 = .ok (.iconst 2, 1) := by decide +kernel
theorem dX13_worthOf_42 : decode cX13_worthOf 42 = .ok (.iaload, 1) := by decide +kernel
theorem dX13_worthOf_43 : decode cX13_worthOf 43 = .ok (.invokevirtual 350, 3) := by decide +kernel
theorem dX13_worthOf_46 : decode cX13_worthOf 46 = .ok (.ireturn, 1) := by decide +kernel
theorem dX13_worth_0 : decode cX13_worth 0 = .ok (.aload_n 0, 1) := by decide +kernel
theorem dX13_worth_1 : decode cX13_worth 1 = .ok (.iconst 0, 1) := by decide +kernel
theorem dX13_worth_2 : decode cX13_worth 2 = .ok (.putfield 102, 3) := by decide +kernel
theorem dX13_worth_5 : decode cX13_worth 5 = .ok (.aload_n 0, 1) := by decide +kernel
theorem dX13_worth_6 : decode cX13_worth 6 = .ok (.iload_n 1, 1) := by decide +kernel
theorem dX13_worth_7 : decode cX13_worth 7 = .ok (.invokevirtual 313, 3) := by decide +kernel
theorem dX13_worth_10 : decode cX13_worth 10 = .ok (.ifCond .eq 11, 3) := by decide +kernel
theorem dX13_worth_13 : decode cX13_worth 13 = .ok (.aload_n 0, 1) := by decide +kernel
theorem dX13_worth_14 : decode cX13_worth 14 = .ok (.iload_n 1, 1) := by decide +kernel
theorem dX13_worth_15 : decode cX13_worth 15 = .ok (.invokevirtual 373, 3) := by decide +kernel
theorem dX13_worth_18 : decode cX13_worth 18 = .ok (.goto 6, 3) := by decide +kernel
theorem dX13_worth_21 : decode cX13_worth 21 = .ok (.ldc_w 376, 3) := by decide +kernel
theorem dX13_worth_24 : decode cX13_worth 24 = .ok (.ireturn, 1) := by decide +kernel
theorem dX13_mean_0 : decode cX13_mean 0 = .ok (.aload_n 0, 1) := by decide +kernel
theorem dX13_mean_1 : decode cX13_mean 1 = .ok (.iconst 0, 1) := by decide +kernel
theorem dX13_mean_2 : decode cX13_mean 2 = .ok (.putfield 102, 3) := by decide +kernel
theorem dX13_mean_5 : decode cX13_mean 5 = .ok (.aload_n 0, 1) := by decide +kernel
theorem dX13_mean_6 : decode cX13_mean 6 = .ok (.getfield 52, 3) := by decide +kernel
theorem dX13_mean_9 : decode cX13_mean 9 = .ok (.iconst (-1), 1) := by decide +kernel
theorem dX13_mean_10 : decode cX13_mean 10 = .ok (.if_icmp .eq 15, 3) := by decide +kernel
theorem dX13_mean_13 : decode cX13_mean 13 = .ok (.iload_n 1, 1) := by decide +kernel
theorem dX13_mean_14 : decode cX13_mean 14 = .ok (.i2l, 1) := by decide +kernel
theorem dX13_mean_15 : decode cX13_mean 15 = .ok (.lconst 0, 1) := by decide +kernel
theorem dX13_mean_16 : decode cX13_mean 16 = .ok (.ldc2_w 346, 3) := by decide +kernel
theorem dX13_mean_19 : decode cX13_mean 19 = .ok (.invokestatic 231, 3) := by decide +kernel
theorem dX13_mean_22 : decode cX13_mean 22 = .ok (.ifCond .ne 7, 3) := by decide +kernel
theorem dX13_mean_25 : decode cX13_mean 25 = .ok (.ldc_w 376, 3) := by decide +kernel
theorem dX13_mean_28 : decode cX13_mean 28 = .ok (.ireturn, 1) := by decide +kernel
theorem dX13_mean_29 : decode cX13_mean 29 = .ok (.lconst 0, 1) := by decide +kernel
theorem dX13_mean_30 : decode cX13_mean 30 = .ok (.lstore_n 2, 1) := by decide +kernel
theorem dX13_mean_31 : decode cX13_mean 31 = .ok (.iconst 0, 1) := by decide +kernel
theorem dX13_mean_32 : decode cX13_mean 32 = .ok (.istore 4, 2) := by decide +kernel
theorem dX13_mean_34 : decode cX13_mean 34 = .ok (.iload 4, 2) := by decide +kernel
theorem dX13_mean_36 : decode cX13_mean 36 = .ok (.aload_n 0, 1) := by decide +kernel
theorem dX13_mean_37 : decode cX13_mean 37 = .ok (.getfield 46, 3) := by decide +kernel
theorem dX13_mean_40 : decode cX13_mean 40 = .ok (.aload_n 0, 1) := by decide +kernel
theorem dX13_mean_41 : decode cX13_mean 41 = .ok (.getfield 52, 3) := by decide +kernel
theorem dX13_mean_44 : decode cX13_mean 44 = .ok (.iaload, 1) := by decide +kernel
theorem dX13_mean_45 : decode cX13_mean 45 = .ok (.if_icmp .ge 42, 3) := by decide +kernel
theorem dX13_mean_48 : decode cX13_mean 48 = .ok (.lload_n 2, 1) := by decide +kernel
theorem dX13_mean_49 : decode cX13_mean 49 = .ok (.aload_n 0, 1) := by decide +kernel
theorem dX13_mean_50 : decode cX13_mean 50 = .ok (.iload 4, 2) := by decide +kernel
theorem dX13_mean_52 : decode cX13_mean 52 = .ok (.invokevirtual 364, 3) := by decide +kernel
theorem dX13_mean_55 : decode cX13_mean 55 = .ok (.i2l, 1) := by decide +kernel
theorem dX13_mean_56 : decode cX13_mean 56 = .ok (.iload_n 1, 1) := by decide +kernel
theorem dX13_mean_57 : decode cX13_mean 57 = .ok (.iconst 3, 1) := by decide +kernel
theorem dX13_mean_58 : decode cX13_mean 58 = .ok (.if_icmp .ge 13, 3) := by decide +kernel
theorem dX13_mean_61 : decode cX13_mean 61 = .ok (.aload_n 0, 1) := by decide +kernel
theorem dX13_mean_62 : decode cX13_mean 62 = .ok (.iload 4, 2) := by decide +kernel
theorem dX13_mean_64 : decode cX13_mean 64 = .ok (.iload_n 1, 1) := by decide +kernel
theorem dX13_mean_65 : decode cX13_mean 65 = .ok (.invokevirtual 318, 3) := by decide +kernel
theorem dX13_mean_68 : decode cX13_mean 68 = .ok (.goto 9, 3) := by decide +kernel
theorem dX13_mean_71 : decode cX13_mean 71 = .ok (.aload_n 0, 1) := by decide +kernel
theorem dX13_mean_72 : decode cX13_mean 72 = .ok (.iload 4, 2) := by decide +kernel
theorem dX13_mean_74 : decode cX13_mean 74 = .ok (.invokevirtual 373, 3) := by decide +kernel
theorem dX13_mean_77 : decode cX13_mean 77 = .ok (.i2l, 1) := by decide +kernel
theorem dX13_mean_78 : decode cX13_mean 78 = .ok (.lmul, 1) := by decide +kernel
theorem dX13_mean_79 : decode cX13_mean 79 = .ok (.ladd, 1) := by decide +kernel
theorem dX13_mean_80 : decode cX13_mean 80 = .ok (.lstore_n 2, 1) := by decide +kernel
theorem dX13_mean_81 : decode cX13_mean 81 = .ok (.iinc 4 1, 3) := by decide +kernel
theorem dX13_mean_84 : decode cX13_mean 84 = .ok (.goto (-50), 3) := by decide +kernel
theorem dX13_mean_87 : decode cX13_mean 87 = .ok (.lload_n 2, 1) := by decide +kernel
theorem dX13_mean_88 : decode cX13_mean 88 = .ok (.ldc2_w 356, 3) := by decide +kernel
theorem dX13_mean_91 : decode cX13_mean 91 = .ok (.ldiv, 1) := by decide +kernel
theorem dX13_mean_92 : decode cX13_mean 92 = .ok (.l2i, 1) := by decide +kernel
theorem dX13_mean_93 : decode cX13_mean 93 = .ok (.ireturn, 1) := by decide +kernel
theorem dX13_valueOf_0 : decode cX13_valueOf 0 = .ok (.iload_n 1, 1) := by decide +kernel
theorem dX13_valueOf_1 : decode cX13_valueOf 1 = .ok (.bipush 100, 2) := by decide +kernel
theorem dX13_valueOf_3 : decode cX13_valueOf 3 = .ok (.if_icmp .ge 14, 3) := by decide +kernel
theorem dX13_valueOf_6 : decode cX13_valueOf 6 = .ok (.ldc2_w 377, 3) := by decide +kernel
theorem dX13_valueOf_9 : decode cX13_valueOf 9 = .ok (.aload_n 0, 1) := by decide +kernel
theorem dX13_valueOf_10 : decode cX13_valueOf 10 = .ok (.iload_n 1, 1) := by decide +kernel
theorem dX13_valueOf_11 : decode cX13_valueOf 11 = .ok (.invokevirtual 373, 3) := by decide +kernel
theorem dX13_valueOf_14 : decode cX13_valueOf 14 = .ok (.i2l, 1) := by decide +kernel
theorem dX13_valueOf_15 : decode cX13_valueOf 15 = .ok (.lmul, 1) := by decide +kernel
theorem dX13_valueOf_16 : decode cX13_valueOf 16 = .ok (.lreturn, 1) := by decide +kernel
theorem dX13_valueOf_17 : decode cX13_valueOf 17 = .ok (.iload_n 1, 1) := by decide +kernel
theorem dX13_valueOf_18 : decode cX13_valueOf 18 = .ok (.bipush 100, 2) := by decide +kernel
theorem dX13_valueOf_20 : decode cX13_valueOf 20 = .ok (.isub, 1) := by decide +kernel
theorem dX13_valueOf_21 : decode cX13_valueOf 21 = .ok (.istore_n 2, 1) := by decide +kernel
theorem dX13_valueOf_22 : decode cX13_valueOf 22 = .ok (.aload_n 0, 1) := by decide +kernel
theorem dX13_valueOf_23 : decode cX13_valueOf 23 = .ok (.getfield 40, 3) := by decide +kernel
theorem dX13_valueOf_26 : decode cX13_valueOf 26 = .ok (.aload_n 0, 1) := by decide +kernel
theorem dX13_valueOf_27 : decode cX13_valueOf 27 = .ok (.aload_n 0, 1) := by decide +kernel
theorem dX13_valueOf_28 : decode cX13_valueOf 28 = .ok (.getfield 52, 3) := by decide +kernel
theorem dX13_valueOf_31 : decode cX13_valueOf 31 = .ok (.iload_n 2, 1) := by decide +kernel
theorem dX13_valueOf_32 : decode cX13_valueOf 32 = .ok (.invokevirtual 249, 3) := by decide +kernel
theorem dX13_valueOf_35 : decode cX13_valueOf 35 = .ok (.iconst 1, 1) := by decide +kernel
theorem dX13_valueOf_36 : decode cX13_valueOf 36 = .ok (.iadd, 1) := by decide +kernel
theorem dX13_valueOf_37 : decode cX13_valueOf 37 = .ok (.iaload, 1) := by decide +kernel
theorem dX13_valueOf_38 : decode cX13_valueOf 38 = .ok (.iconst 1, 1) := by decide +kernel
theorem dX13_valueOf_39 : decode cX13_valueOf 39 = .ok (.if_icmp .ne 7, 3) := by decide +kernel
theorem dX13_valueOf_42 : decode cX13_valueOf 42 = .ok (.iconst 1, 1) := by decide +kernel
theorem dX13_valueOf_43 : decode cX13_valueOf 43 = .ok (.goto 4, 3) := by decide +kernel
theorem dX13_valueOf_46 : decode cX13_valueOf 46 = .ok (.iconst 0, 1) := by decide +kernel
theorem dX13_valueOf_47 : decode cX13_valueOf 47 = .ok (.istore_n 3, 1) := by decide +kernel
theorem dX13_valueOf_48 : decode cX13_valueOf 48 = .ok (.lconst 0, 1) := by decide +kernel
theorem dX13_valueOf_49 : decode cX13_valueOf 49 = .ok (.lstore 4, 2) := by decide +kernel
theorem dX13_valueOf_51 : decode cX13_valueOf 51 = .ok (.iconst 0, 1) := by decide +kernel
theorem dX13_valueOf_52 : decode cX13_valueOf 52 = .ok (.istore 6, 2) := by decide +kernel
theorem dX13_valueOf_54 : decode cX13_valueOf 54 = .ok (.iconst 0, 1) := by decide +kernel
theorem dX13_valueOf_55 : decode cX13_valueOf 55 = .ok (.istore 7, 2) := by decide +kernel
theorem dX13_valueOf_57 : decode cX13_valueOf 57 = .ok (.iload 7, 2) := by decide +kernel
theorem dX13_valueOf_59 : decode cX13_valueOf 59 = .ok (.aload_n 0, 1) := by decide +kernel
theorem dX13_valueOf_60 : decode cX13_valueOf 60 = .ok (.getfield 40, 3) := by decide +kernel
theorem dX13_valueOf_63 : decode cX13_valueOf 63 = .ok (.aload_n 0, 1) := by decide +kernel
theorem dX13_valueOf_64 : decode cX13_valueOf 64 = .ok (.aload_n 0, 1) := by decide +kernel
theorem dX13_valueOf_65 : decode cX13_valueOf 65 = .ok (.getfield 52, 3) := by decide +kernel
theorem dX13_valueOf_68 : decode cX13_valueOf 68 = .ok (.iload_n 2, 1) := by decide +kernel
theorem dX13_valueOf_69 : decode cX13_valueOf 69 = .ok (.invokevirtual 249, 3) := by decide +kernel
theorem dX13_valueOf_72 : decode cX13_valueOf 72 = .ok (.iconst 2, 1) := by decide +kernel
theorem dX13_valueOf_73 : decode cX13_valueOf 73 = .ok (.iadd, 1) := by decide +kernel
theorem dX13_valueOf_74 : decode cX13_valueOf 74 = .ok (.iaload, 1) := by decide +kernel
theorem dX13_valueOf_75 : decode cX13_valueOf 75 = .ok (.if_icmp .ge 104, 3) := by decide +kernel
theorem dX13_valueOf_78 : decode cX13_valueOf 78 = .ok (.aload_n 0, 1) := by decide +kernel
theorem dX13_valueOf_79 : decode cX13_valueOf 79 = .ok (.getfield 56, 3) := by decide +kernel
theorem dX13_valueOf_82 : decode cX13_valueOf 82 = .ok (.iconst 4, 1) := by decide +kernel
theorem dX13_valueOf_83 : decode cX13_valueOf 83 = .ok (.iload_n 2, 1) := by decide +kernel
theorem dX13_valueOf_84 : decode cX13_valueOf 84 = .ok (.imul, 1) := by decide +kernel
theorem dX13_valueOf_85 : decode cX13_valueOf 85 = .ok (.iload 7, 2) := by decide +kernel
theorem dX13_valueOf_87 : decode cX13_valueOf 87 = .ok (.iadd, 1) := by decide +kernel
theorem dX13_valueOf_88 : decode cX13_valueOf 88 = .ok (.baload, 1) := by decide +kernel
theorem dX13_valueOf_89 : decode cX13_valueOf 89 = .ok (.ifCond .ne 6, 3) := by decide +kernel
theorem dX13_valueOf_92 : decode cX13_valueOf 92 = .ok (.goto 81, 3) := by decide +kernel
theorem dX13_valueOf_95 : decode cX13_valueOf 95 = .ok (.aload_n 0, 1) := by decide +kernel
theorem dX13_valueOf_96 : decode cX13_valueOf 96 = .ok (.aload_n 0, 1) := by decide +kernel
theorem dX13_valueOf_97 : decode cX13_valueOf 97 = .ok (.getfield 43, 3) := by decide +kernel
theorem dX13_valueOf_100 : decode cX13_valueOf 100 = .ok (.aload_n 0, 1) := by decide +kernel
theorem dX13_valueOf_101 : decode cX13_valueOf 101 = .ok (.aload_n 0, 1) := by decide +kernel
theorem dX13_valueOf_102 : decode cX13_valueOf 102 = .ok (.getfield 52, 3) := by decide +kernel
theorem dX13_valueOf_105 : decode cX13_valueOf 105 = .ok (.iload_n 2, 1) := by decide +kernel
theorem dX13_valueOf_106 : decode cX13_valueOf 106 = .ok (.iload 7, 2) := by decide +kernel
theorem dX13_valueOf_108 : decode cX13_valueOf 108 = .ok (.invokevirtual 262, 3) := by decide +kernel
theorem dX13_valueOf_111 : decode cX13_valueOf 111 = .ok (.iconst 5, 1) := by decide +kernel
theorem dX13_valueOf_112 : decode cX13_valueOf 112 = .ok (.iadd, 1) := by decide +kernel
theorem dX13_valueOf_113 : decode cX13_valueOf 113 = .ok (.iaload, 1) := by decide +kernel
theorem dX13_valueOf_114 : decode cX13_valueOf 114 = .ok (.invokevirtual 379, 3) := by decide +kernel
theorem dX13_valueOf_117 : decode cX13_valueOf 117 = .ok (.lstore 8, 2) := by decide +kernel
theorem dX13_valueOf_119 : decode cX13_valueOf 119 = .ok (.iload_n 3, 1) := by decide +kernel
theorem dX13_valueOf_120 : decode cX13_valueOf 120 = .ok (.ifCond .eq 31, 3) := by decide +kernel
theorem dX13_valueOf_123 : decode cX13_valueOf 123 = .ok (.lload 4, 2) := by decide +kernel
theorem dX13_valueOf_125 : decode cX13_valueOf 125 = .ok (.lload 8, 2) := by decide +kernel
theorem dX13_valueOf_127 : decode cX13_valueOf 127 = .ok (.aload_n 0, 1) := by decide +kernel
theorem dX13_valueOf_128 : decode cX13_valueOf 128 = .ok (.getfield 43, 3) := by decide +kernel
theorem dX13_valueOf_131 : decode cX13_valueOf 131 = .ok (.aload_n 0, 1) := by decide +kernel
theorem dX13_valueOf_132 : decode cX13_valueOf 132 = .ok (.aload_n 0, 1) := by decide +kernel
theorem dX13_valueOf_133 : decode cX13_valueOf 133 = .ok (.getfield 52, 3) := by decide +kernel
theorem dX13_valueOf_136 : decode cX13_valueOf 136 = .ok (.iload_n 2, 1) := by decide +kernel
theorem dX13_valueOf_137 : decode cX13_valueOf 137 = .ok (.iload 7, 2) := by decide +kernel
theorem dX13_valueOf_139 : decode cX13_valueOf 139 = .ok (.invokevirtual 262, 3) := by decide +kernel
theorem dX13_valueOf_142 : decode cX13_valueOf 142 = .ok (.iaload, 1) := by decide +kernel
theorem dX13_valueOf_143 : decode cX13_valueOf 143 = .ok (.i2l, 1) := by decide +kernel
theorem dX13_valueOf_144 : decode cX13_valueOf 144 = .ok (.lmul, 1) := by decide +kernel
theorem dX13_valueOf_145 : decode cX13_valueOf 145 = .ok (.ladd, 1) := by decide +kernel
theorem dX13_valueOf_146 : decode cX13_valueOf 146 = .ok (.lstore 4, 2) := by decide +kernel
theorem dX13_valueOf_148 : decode cX13_valueOf 148 = .ok (.goto 22, 3) := by decide +kernel
theorem dX13_valueOf_151 : decode cX13_valueOf 151 = .ok (.iload 6, 2) := by decide +kernel
theorem dX13_valueOf_153 : decode cX13_valueOf 153 = .ok (.ifCond .eq 13, 3) := by decide +kernel
theorem dX13_valueOf_156 : decode cX13_valueOf 156 = .ok (.lload 4, 2) := by decide +kernel
theorem dX13_valueOf_158 : decode cX13_valueOf 158 = .ok (.lload 8, 2) := by decide +kernel
theorem dX13_valueOf_160 : decode cX13_valueOf 160 = .ok (.invokestatic 157, 3) := by decide +kernel
theorem dX13_valueOf_163 : decode cX13_valueOf 163 = .ok (.goto 5, 3) := by decide +kernel
theorem dX13_valueOf_166 : decode cX13_valueOf 166 = .ok (.lload 8, 2) := by decide +kernel
theorem dX13_valueOf_168 : decode cX13_valueOf 168 = .ok (.lstore 4, 2) := by decide +kernel
theorem dX13_valueOf_170 : decode cX13_valueOf 170 = .ok (.iconst 1, 1) := by decide +kernel
theorem dX13_valueOf_171 : decode cX13_valueOf 171 = .ok (.istore 6, 2) := by decide +kernel
theorem dX13_valueOf_173 : decode cX13_valueOf 173 = .ok (.iinc 7 1, 3) := by decide +kernel
theorem dX13_valueOf_176 : decode cX13_valueOf 176 = .ok (.goto (-119), 3) := by decide +kernel
theorem dX13_valueOf_179 : decode cX13_valueOf 179 = .ok (.iload_n 3, 1) := by decide +kernel
theorem dX13_valueOf_180 : decode cX13_valueOf 180 = .ok (.ifCond .eq 15, 3) := by decide +kernel
theorem dX13_valueOf_183 : decode cX13_valueOf 183 = .ok (.lload 4, 2) := by decide +kernel
theorem dX13_valueOf_185 : decode cX13_valueOf 185 = .ok (.aload_n 0, 1) := by decide +kernel
theorem dX13_valueOf_186 : decode cX13_valueOf 186 = .ok (.iload_n 2, 1) := by decide +kernel
theorem dX13_valueOf_187 : decode cX13_valueOf 187 = .ok (.invokevirtual 358, 3) := by decide +kernel
theorem dX13_valueOf_190 : decode cX13_valueOf 190 = .ok (.i2l, 1) := by decide +kernel
theorem dX13_valueOf_191 : decode cX13_valueOf 191 = .ok (.ldiv, 1) := by decide +kernel
theorem dX13_valueOf_192 : decode cX13_valueOf 192 = .ok (.goto 5, 3) := by decide +kernel
theorem dX13_valueOf_195 : decode cX13_valueOf 195 = .ok (.lload 4, 2) := by decide +kernel
theorem dX13_valueOf_197 : decode cX13_valueOf 197 = .ok (.lreturn, 1) := by decide +kernel
theorem dX13_behindOf_0 : decode cX13_behindOf 0 = .ok (.aload_n 0, 1) := by decide +kernel
theorem dX13_behindOf_1 : decode cX13_behindOf 1 = .ok (.aload_n 0, 1) := by decide +kernel
theorem dX13_behindOf_2 : decode cX13_behindOf 2 = .ok (.getfield 43, 3) := by decide +kernel
theorem dX13_behindOf_5 : decode cX13_behindOf 5 = .ok (.aload_n 0, 1) := by decide +kernel
theorem dX13_behindOf_6 : decode cX13_behindOf 6 = .ok (.aload_n 0, 1) := by decide +kernel
theorem dX13_behindOf_7 : decode cX13_behindOf 7 = .ok (.getfield 52, 3) := by decide +kernel
theorem dX13_behindOf_10 : decode cX13_behindOf 10 = .ok (.iload_n 1, 1) := by decide +kernel
theorem dX13_behindOf_11 : decode cX13_behindOf 11 = .ok (.iload_n 2, 1) := by decide +kernel
theorem dX13_behindOf_12 : decode cX13_behindOf 12 = .ok (.invokevirtual 262, 3) := by decide +kernel
theorem dX13_behindOf_15 : decode cX13_behindOf 15 = .ok (.iconst 5, 1) := by decide +kernel
theorem dX13_behindOf_16 : decode cX13_behindOf 16 = .ok (.iadd, 1) := by decide +kernel
theorem dX13_behindOf_17 : decode cX13_behindOf 17 = .ok (.iaload, 1) := by decide +kernel
theorem dX13_behindOf_18 : decode cX13_behindOf 18 = .ok (.invokevirtual 379, 3) := by decide +kernel
theorem dX13_behindOf_21 : decode cX13_behindOf 21 = .ok (.lreturn, 1) := by decide +kernel
theorem dX13_value_0 : decode cX13_value 0 = .ok (.aload_n 0, 1) := by decide +kernel
theorem dX13_value_1 : decode cX13_value 1 = .ok (.iconst 0, 1) := by decide +kernel
theorem dX13_value_2 : decode cX13_value 2 = .ok (.putfield 102, 3) := by decide +kernel
theorem dX13_value_5 : decode cX13_value 5 = .ok (.iload_n 2, 1) := by decide +kernel
theorem dX13_value_6 : decode cX13_value 6 = .ok (.iconst (-1), 1) := by decide +kernel
theorem dX13_value_7 : decode cX13_value 7 = .ok (.if_icmp .ne 14, 3) := by decide +kernel
theorem dX13_value_10 : decode cX13_value 10 = .ok (.aload_n 0, 1) := by decide +kernel
theorem dX13_value_11 : decode cX13_value 11 = .ok (.iload_n 1, 1) := by decide +kernel
theorem dX13_value_12 : decode cX13_value 12 = .ok (.invokevirtual 304, 3) := by decide +kernel
theorem dX13_value_15 : decode cX13_value 15 = .ok (.ifCond .ne 19, 3) := by decide +kernel
theorem dX13_value_18 : decode cX13_value 18 = .ok (.goto 12, 3) := by decide +kernel
theorem dX13_value_21 : decode cX13_value 21 = .ok (.aload_n 0, 1) := by decide +kernel
theorem dX13_value_22 : decode cX13_value 22 = .ok (.iload_n 1, 1) := by decide +kernel
theorem dX13_value_23 : decode cX13_value 23 = .ok (.iload_n 2, 1) := by decide +kernel
theorem dX13_value_24 : decode cX13_value 24 = .ok (.invokevirtual 335, 3) := by decide +kernel
theorem dX13_value_27 : decode cX13_value 27 = .ok (.ifCond .ne 7, 3) := by decide +kernel
theorem dX13_value_30 : decode cX13_value 30 = .ok (.ldc_w 376, 3) := by decide +kernel
theorem dX13_value_33 : decode cX13_value 33 = .ok (.ireturn, 1) := by decide +kernel
theorem dX13_value_34 : decode cX13_value 34 = .ok (.iload_n 2, 1) := by decide +kernel
theorem dX13_value_35 : decode cX13_value 35 = .ok (.iconst (-1), 1) := by decide +kernel
theorem dX13_value_36 : decode cX13_value 36 = .ok (.if_icmp .ne 14, 3) := by decide +kernel
theorem dX13_value_39 : decode cX13_value 39 = .ok (.aload_n 0, 1) := by decide +kernel
theorem dX13_value_40 : decode cX13_value 40 = .ok (.bipush 100, 2) := by decide +kernel
theorem dX13_value_42 : decode cX13_value 42 = .ok (.iload_n 1, 1) := by decide +kernel
theorem dX13_value_43 : decode cX13_value 43 = .ok (.iadd, 1) := by decide +kernel
theorem dX13_value_44 : decode cX13_value 44 = .ok (.invokevirtual 379, 3) := by decide +kernel
theorem dX13_value_47 : decode cX13_value 47 = .ok (.goto 9, 3) := by decide +kernel
theorem dX13_value_50 : decode cX13_value 50 = .ok (.aload_n 0, 1) := by decide +kernel
theorem dX13_value_51 : decode cX13_value 51 = .ok (.iload_n 1, 1) := by decide +kernel
theorem dX13_value_52 : decode cX13_value 52 = .ok (.iload_n 2, 1) := by decide +kernel
theorem dX13_value_53 : decode cX13_value 53 = .ok (.invokevirtual 383, 3) := by decide +kernel
theorem dX13_value_56 : decode cX13_value 56 = .ok (.l2i, 1) := by decide +kernel
theorem dX13_value_57 : decode cX13_value 57 = .ok (.ireturn, 1) := by decide +kernel
theorem dX13_advice_0 : decode cX13_advice 0 = .ok (.aload_n 0, 1) := by decide +kernel
theorem dX13_advice_1 : decode cX13_advice 1 = .ok (.iconst 0, 1) := by decide +kernel
theorem dX13_advice_2 : decode cX13_advice 2 = .ok (.putfield 102, 3) := by decide +kernel
theorem dX13_advice_5 : decode cX13_advice 5 = .ok (.aload_n 0, 1) := by decide +kernel
theorem dX13_advice_6 : decode cX13_advice 6 = .ok (.iload_n 1, 1) := by decide +kernel
theorem dX13_advice_7 : decode cX13_advice 7 = .ok (.invokevirtual 304, 3) := by decide +kernel
theorem dX13_advice_10 : decode cX13_advice 10 = .ok (.ifCond .ne 5, 3) := by decide +kernel
theorem dX13_advice_13 : decode cX13_advice 13 = .ok (.iconst (-1), 1) := by decide +kernel
theorem dX13_advice_14 : decode cX13_advice 14 = .ok (.ireturn, 1) := by decide +kernel
theorem dX13_advice_15 : decode cX13_advice 15 = .ok (.iconst (-1), 1) := by decide +kernel
theorem dX13_advice_16 : decode cX13_advice 16 = .ok (.istore_n 2, 1) := by decide +kernel
theorem dX13_advice_17 : decode cX13_advice 17 = .ok (.lconst 0, 1) := by decide +kernel
theorem dX13_advice_18 : decode cX13_advice 18 = .ok (.lstore_n 3, 1) := by decide +kernel
theorem dX13_advice_19 : decode cX13_advice 19 = .ok (.iconst 0, 1) := by decide +kernel
theorem dX13_advice_20 : decode cX13_advice 20 = .ok (.istore 5, 2) := by decide +kernel
theorem dX13_advice_22 : decode cX13_advice 22 = .ok (.iload 5, 2) := by decide +kernel
theorem dX13_advice_24 : decode cX13_advice 24 = .ok (.aload_n 0, 1) := by decide +kernel
theorem dX13_advice_25 : decode cX13_advice 25 = .ok (.getfield 40, 3) := by decide +kernel
theorem dX13_advice_28 : decode cX13_advice 28 = .ok (.aload_n 0, 1) := by decide +kernel
theorem dX13_advice_29 : decode cX13_advice 29 = .ok (.aload_n 0, 1) := by decide +kernel
theorem dX13_advice_30 : decode cX13_advice 30 = .ok (.getfield 52, 3) := by decide +kernel
theorem dX13_advice_33 : decode cX13_advice 33 = .ok (.iload_n 1, 1) := by decide +kernel
theorem dX13_advice_34 : decode cX13_advice 34 = .ok (.invokevirtual 249, 3) := by decide +kernel
theorem dX13_advice_37 : decode cX13_advice 37 = .ok (.iconst 2, 1) := by decide +kernel
theorem dX13_advice_38 : decode cX13_advice 38 = .ok (.iadd, 1) := by decide +kernel
theorem dX13_advice_39 : decode cX13_advice 39 = .ok (.iaload, 1) := by decide +kernel
theorem dX13_advice_40 : decode cX13_advice 40 = .ok (.if_icmp .ge 56, 3) := by decide +kernel
theorem dX13_advice_43 : decode cX13_advice 43 = .ok (.aload_n 0, 1) := by decide +kernel
theorem dX13_advice_44 : decode cX13_advice 44 = .ok (.getfield 56, 3) := by decide +kernel
theorem dX13_advice_47 : decode cX13_advice 47 = .ok (.iconst 4, 1) := by decide +kernel
theorem dX13_advice_48 : decode cX13_advice 48 = .ok (.iload_n 1, 1) := by decide +kernel
theorem dX13_advice_49 : decode cX13_advice 49 = .ok (.imul, 1) := by decide +kernel
theorem dX13_advice_50 : decode cX13_advice 50 = .ok (.iload 5, 2) := by decide +kernel
theorem dX13_advice_52 : decode cX13_advice 52 = .ok (.iadd, 1) := by decide +kernel
theorem dX13_advice_53 : decode cX13_advice 53 = .ok (.baload, 1) := by decide +kernel
theorem dX13_advice_54 : decode cX13_advice 54 = .ok (.ifCond .ne 6, 3) := by decide +kernel
theorem dX13_advice_57 : decode cX13_advice 57 = .ok (.goto 33, 3) := by decide +kernel
theorem dX13_advice_60 : decode cX13_advice 60 = .ok (.aload_n 0, 1) := by decide +kernel
theorem dX13_advice_61 : decode cX13_advice 61 = .ok (.iload_n 1, 1) := by decide +kernel
theorem dX13_advice_62 : decode cX13_advice 62 = .ok (.iload 5, 2) := by decide +kernel
theorem dX13_advice_64 : decode cX13_advice 64 = .ok (.invokevirtual 383, 3) := by decide +kernel
theorem dX13_advice_67 : decode cX13_advice 67 = .ok (.lstore 6, 2) := by decide +kernel
theorem dX13_advice_69 : decode cX13_advice 69 = .ok (.iload_n 2, 1) := by decide +kernel
theorem dX13_advice_70 : decode cX13_advice 70 = .ok (.iconst (-1), 1) := by decide +kernel
theorem dX13_advice_71 : decode cX13_advice 71 = .ok (.if_icmp .eq 13, 3) := by decide +kernel
theorem dX13_advice_74 : decode cX13_advice 74 = .ok (.lload 6, 2) := by decide +kernel
theorem dX13_advice_76 : decode cX13_advice 76 = .ok (.lload_n 3, 1) := by decide +kernel
theorem dX13_advice_77 : decode cX13_advice 77 = .ok (.lcmp, 1) := by decide +kernel
theorem dX13_advice_78 : decode cX13_advice 78 = .ok (.ifCond .gt 6, 3) := by decide +kernel
theorem dX13_advice_81 : decode cX13_advice 81 = .ok (.goto 9, 3) := by decide +kernel
theorem dX13_advice_84 : decode cX13_advice 84 = .ok (.iload 5, 2) := by decide +kernel
theorem dX13_advice_86 : decode cX13_advice 86 = .ok (.istore_n 2, 1) := by decide +kernel
theorem dX13_advice_87 : decode cX13_advice 87 = .ok (.lload 6, 2) := by decide +kernel
theorem dX13_advice_89 : decode cX13_advice 89 = .ok (.lstore_n 3, 1) := by decide +kernel
theorem dX13_advice_90 : decode cX13_advice 90 = .ok (.iinc 5 1, 3) := by decide +kernel
theorem dX13_advice_93 : decode cX13_advice 93 = .ok (.goto (-71), 3) := by decide +kernel
theorem dX13_advice_96 : decode cX13_advice 96 = .ok (.iload_n 2, 1) := by decide +kernel
theorem dX13_advice_97 : decode cX13_advice 97 = .ok (.ireturn, 1) := by decide +kernel
theorem dX13_regretOf_0 : decode cX13_regretOf 0 = .ok (.aload_n 0, 1) := by decide +kernel
theorem dX13_regretOf_1 : decode cX13_regretOf 1 = .ok (.getfield 40, 3) := by decide +kernel
theorem dX13_regretOf_4 : decode cX13_regretOf 4 = .ok (.aload_n 0, 1) := by decide +kernel
theorem dX13_regretOf_5 : decode cX13_regretOf 5 = .ok (.aload_n 0, 1) := by decide +kernel
theorem dX13_regretOf_6 : decode cX13_regretOf 6 = .ok (.getfield 52, 3) := by decide +kernel
theorem dX13_regretOf_9 : decode cX13_regretOf 9 = .ok (.iload_n 1, 1) := by decide +kernel
theorem dX13_regretOf_10 : decode cX13_regretOf 10 = .ok (.invokevirtual 249, 3) := by decide +kernel
theorem dX13_regretOf_13 : decode cX13_regretOf 13 = .ok (.iconst 1, 1) := by decide +kernel
theorem dX13_regretOf_14 : decode cX13_regretOf 14 = .ok (.iadd, 1) := by decide +kernel
theorem dX13_regretOf_15 : decode cX13_regretOf 15 = .ok (.iaload, 1) := by decide +kernel
theorem dX13_regretOf_16 : decode cX13_regretOf 16 = .ok (.iconst 1, 1) := by decide +kernel
theorem dX13_regretOf_17 : decode cX13_regretOf 17 = .ok (.if_icmp .ne 7, 3) := by decide +kernel
theorem dX13_regretOf_20 : decode cX13_regretOf 20 = .ok (.lconst 0, 1) := by decide +kernel
theorem dX13_regretOf_21 : decode cX13_regretOf 21 = .ok (.goto 22, 3) := by decide +kernel
theorem dX13_regretOf_24 : decode cX13_regretOf 24 = .ok (.lconst 0, 1) := by decide +kernel
theorem dX13_regretOf_25 : decode cX13_regretOf 25 = .ok (.aload_n 0, 1) := by decide +kernel
theorem dX13_regretOf_26 : decode cX13_regretOf 26 = .ok (.bipush 100, 2) := by decide +kernel
theorem dX13_regretOf_28 : decode cX13_regretOf 28 = .ok (.iload_n 1, 1) := by decide +kernel
theorem dX13_regretOf_29 : decode cX13_regretOf 29 = .ok (.iadd, 1) := by decide +kernel
theorem dX13_regretOf_30 : decode cX13_regretOf 30 = .ok (.invokevirtual 379, 3) := by decide +kernel
theorem dX13_regretOf_33 : decode cX13_regretOf 33 = .ok (.aload_n 0, 1) := by decide +kernel
theorem dX13_regretOf_34 : decode cX13_regretOf 34 = .ok (.iload_n 1, 1) := by decide +kernel
theorem dX13_regretOf_35 : decode cX13_regretOf 35 = .ok (.iload_n 2, 1) := by decide +kernel
theorem dX13_regretOf_36 : decode cX13_regretOf 36 = .ok (.invokevirtual 383, 3) := by decide +kernel
theorem dX13_regretOf_39 : decode cX13_regretOf 39 = .ok (.lsub, 1) := by decide +kernel
theorem dX13_regretOf_40 : decode cX13_regretOf 40 = .ok (.invokestatic 157, 3) := by decide +kernel
theorem dX13_regretOf_43 : decode cX13_regretOf 43 = .ok (.lreturn, 1) := by decide +kernel
theorem dX13_branchOn_0 : decode cX13_branchOn 0 = .ok (.aload_n 0, 1) := by decide +kernel
theorem dX13_branchOn_1 : decode cX13_branchOn 1 = .ok (.aload_n 0, 1) := by decide +kernel
theorem dX13_branchOn_2 : decode cX13_branchOn 2 = .ok (.getfield 52, 3) := by decide +kernel
theorem dX13_branchOn_5 : decode cX13_branchOn 5 = .ok (.iload_n 1, 1) := by decide +kernel
theorem dX13_branchOn_6 : decode cX13_branchOn 6 = .ok (.invokevirtual 310, 3) := by decide +kernel
theorem dX13_branchOn_9 : decode cX13_branchOn 9 = .ok (.iconst 0, 1) := by decide +kernel
theorem dX13_branchOn_10 : decode cX13_branchOn 10 = .ok (.istore_n 3, 1) := by decide +kernel
theorem dX13_branchOn_11 : decode cX13_branchOn 11 = .ok (.iload_n 3, 1) := by decide +kernel
theorem dX13_branchOn_12 : decode cX13_branchOn 12 = .ok (.aload_n 0, 1) := by decide +kernel
theorem dX13_branchOn_13 : decode cX13_branchOn 13 = .ok (.getfield 307, 3) := by decide +kernel
theorem dX13_branchOn_16 : decode cX13_branchOn 16 = .ok (.if_icmp .ge 26, 3) := by decide +kernel
theorem dX13_branchOn_19 : decode cX13_branchOn 19 = .ok (.aload_n 0, 1) := by decide +kernel
theorem dX13_branchOn_20 : decode cX13_branchOn 20 = .ok (.getfield 63, 3) := by decide +kernel
theorem dX13_branchOn_23 : decode cX13_branchOn 23 = .ok (.iload_n 3, 1) := by decide +kernel
theorem dX13_branchOn_24 : decode cX13_branchOn 24 = .ok (.iaload, 1) := by decide +kernel
theorem dX13_branchOn_25 : decode cX13_branchOn 25 = .ok (.iload_n 2, 1) := by decide +kernel
theorem dX13_branchOn_26 : decode cX13_branchOn 26 = .ok (.if_icmp .ne 10, 3) := by decide +kernel
theorem dX13_branchOn_29 : decode cX13_branchOn 29 = .ok (.aload_n 0, 1) := by decide +kernel
theorem dX13_branchOn_30 : decode cX13_branchOn 30 = .ok (.getfield 66, 3) := by decide +kernel
theorem dX13_branchOn_33 : decode cX13_branchOn 33 = .ok (.iload_n 3, 1) := by decide +kernel
theorem dX13_branchOn_34 : decode cX13_branchOn 34 = .ok (.iaload, 1) := by decide +kernel
theorem dX13_branchOn_35 : decode cX13_branchOn 35 = .ok (.ireturn, 1) := by decide +kernel
theorem dX13_branchOn_36 : decode cX13_branchOn 36 = .ok (.iinc 3 1, 3) := by decide +kernel
theorem dX13_branchOn_39 : decode cX13_branchOn 39 = .ok (.goto (-28), 3) := by decide +kernel
theorem dX13_branchOn_42 : decode cX13_branchOn 42 = .ok (.iconst (-1), 1) := by decide +kernel
theorem dX13_branchOn_43 : decode cX13_branchOn 43 = .ok (.ireturn, 1) := by decide +kernel
theorem dX13_regret_0 : decode cX13_regret 0 = .ok (.aload_n 0, 1) := by decide +kernel
theorem dX13_regret_1 : decode cX13_regret 1 = .ok (.iconst 0, 1) := by decide +kernel
theorem dX13_regret_2 : decode cX13_regret 2 = .ok (.putfield 102, 3) := by decide +kernel
theorem dX13_regret_5 : decode cX13_regret 5 = .ok (.aload_n 0, 1) := by decide +kernel
theorem dX13_regret_6 : decode cX13_regret 6 = .ok (.iload_n 1, 1) := by decide +kernel
theorem dX13_regret_7 : decode cX13_regret 7 = .ok (.invokevirtual 313, 3) := by decide +kernel
theorem dX13_regret_10 : decode cX13_regret 10 = .ok (.ifCond .eq 21, 3) := by decide +kernel
theorem dX13_regret_13 : decode cX13_regret 13 = .ok (.aload_n 0, 1) := by decide +kernel
theorem dX13_regret_14 : decode cX13_regret 14 = .ok (.iload_n 2, 1) := by decide +kernel
theorem dX13_regret_15 : decode cX13_regret 15 = .ok (.invokevirtual 304, 3) := by decide +kernel
theorem dX13_regret_18 : decode cX13_regret 18 = .ok (.ifCond .eq 13, 3) := by decide +kernel
theorem dX13_regret_21 : decode cX13_regret 21 = .ok (.aload_n 0, 1) := by decide +kernel
theorem dX13_regret_22 : decode cX13_regret 22 = .ok (.iload_n 1, 1) := by decide +kernel
theorem dX13_regret_23 : decode cX13_regret 23 = .ok (.iload_n 2, 1) := by decide +kernel
theorem dX13_regret_24 : decode cX13_regret 24 = .ok (.invokevirtual 387, 3) := by decide +kernel
theorem dX13_regret_27 : decode cX13_regret 27 = .ok (.iconst (-1), 1) := by decide +kernel
theorem dX13_regret_28 : decode cX13_regret 28 = .ok (.if_icmp .ne 5, 3) := by decide +kernel
theorem dX13_regret_31 : decode cX13_regret 31 = .ok (.iconst (-1), 1) := by decide +kernel
theorem dX13_regret_32 : decode cX13_regret 32 = .ok (.ireturn, 1) := by decide +kernel
theorem dX13_regret_33 : decode cX13_regret 33 = .ok (.aload_n 0, 1) := by decide +kernel
theorem dX13_regret_34 : decode cX13_regret 34 = .ok (.iload_n 2, 1) := by decide +kernel
theorem dX13_regret_35 : decode cX13_regret 35 = .ok (.aload_n 0, 1) := by decide +kernel
theorem dX13_regret_36 : decode cX13_regret 36 = .ok (.iload_n 1, 1) := by decide +kernel
theorem dX13_regret_37 : decode cX13_regret 37 = .ok (.iload_n 2, 1) := by decide +kernel
theorem dX13_regret_38 : decode cX13_regret 38 = .ok (.invokevirtual 387, 3) := by decide +kernel
theorem dX13_regret_41 : decode cX13_regret 41 = .ok (.invokevirtual 390, 3) := by decide +kernel
theorem dX13_regret_44 : decode cX13_regret 44 = .ok (.l2i, 1) := by decide +kernel
theorem dX13_regret_45 : decode cX13_regret 45 = .ok (.ireturn, 1) := by decide +kernel
theorem dX13_regretsOf_0 : decode cX13_regretsOf 0 = .ok (.lconst 0, 1) := by decide +kernel
theorem dX13_regretsOf_1 : decode cX13_regretsOf 1 = .ok (.lstore_n 2, 1) := by decide +kernel
theorem dX13_regretsOf_2 : decode cX13_regretsOf 2 = .ok (.iconst 0, 1) := by decide +kernel
theorem dX13_regretsOf_3 : decode cX13_regretsOf 3 = .ok (.istore 4, 2) := by decide +kernel
theorem dX13_regretsOf_5 : decode cX13_regretsOf 5 = .ok (.iload 4, 2) := by decide +kernel
theorem dX13_regretsOf_7 : decode cX13_regretsOf 7 = .ok (.aload_n 0, 1) := by decide +kernel
theorem dX13_regretsOf_8 : decode cX13_regretsOf 8 = .ok (.getfield 49, 3) := by decide +kernel
theorem dX13_regretsOf_11 : decode cX13_regretsOf 11 = .ok (.aload_n 0, 1) := by decide +kernel
theorem dX13_regretsOf_12 : decode cX13_regretsOf 12 = .ok (.getfield 52, 3) := by decide +kernel
theorem dX13_regretsOf_15 : decode cX13_regretsOf 15 = .ok (.iaload, 1) := by decide +kernel
theorem dX13_regretsOf_16 : decode cX13_regretsOf 16 = .ok (.if_icmp .ge 40, 3) := by decide +kernel
theorem dX13_regretsOf_19 : decode cX13_regretsOf 19 = .ok (.lload_n 2, 1) := by decide +kernel
theorem dX13_regretsOf_20 : decode cX13_regretsOf 20 = .ok (.aload_n 0, 1) := by decide +kernel
theorem dX13_regretsOf_21 : decode cX13_regretsOf 21 = .ok (.iload_n 1, 1) := by decide +kernel
theorem dX13_regretsOf_22 : decode cX13_regretsOf 22 = .ok (.iload 4, 2) := by decide +kernel
theorem dX13_regretsOf_24 : decode cX13_regretsOf 24 = .ok (.invokevirtual 387, 3) := by decide +kernel
theorem dX13_regretsOf_27 : decode cX13_regretsOf 27 = .ok (.iconst (-1), 1) := by decide +kernel
theorem dX13_regretsOf_28 : decode cX13_regretsOf 28 = .ok (.if_icmp .ne 7, 3) := by decide +kernel
theorem dX13_regretsOf_31 : decode cX13_regretsOf 31 = .ok (.lconst 0, 1) := by decide +kernel
theorem dX13_regretsOf_32 : decode cX13_regretsOf 32 = .ok (.goto 16, 3) := by decide +kernel
theorem dX13_regretsOf_35 : decode cX13_regretsOf 35 = .ok (.aload_n 0, 1) := by decide +kernel
theorem dX13_regretsOf_36 : decode cX13_regretsOf 36 = .ok (.iload 4, 2) := by decide +kernel
theorem dX13_regretsOf_38 : decode cX13_regretsOf 38 = .ok (.aload_n 0, 1) := by decide +kernel
theorem dX13_regretsOf_39 : decode cX13_regretsOf 39 = .ok (.iload_n 1, 1) := by decide +kernel
theorem dX13_regretsOf_40 : decode cX13_regretsOf 40 = .ok (.iload 4, 2) := by decide +kernel
theorem dX13_regretsOf_42 : decode cX13_regretsOf 42 = .ok (.invokevirtual 387, 3) := by decide +kernel
theorem dX13_regretsOf_45 : decode cX13_regretsOf 45 = .ok (.invokevirtual 390, 3) := by decide +kernel
theorem dX13_regretsOf_48 : decode cX13_regretsOf 48 = .ok (.ladd, 1) := by decide +kernel
theorem dX13_regretsOf_49 : decode cX13_regretsOf 49 = .ok (.lstore_n 2, 1) := by decide +kernel
theorem dX13_regretsOf_50 : decode cX13_regretsOf 50 = .ok (.iinc 4 1, 3) := by decide +kernel
theorem dX13_regretsOf_53 : decode cX13_regretsOf 53 = .ok (.goto (-48), 3) := by decide +kernel
theorem dX13_regretsOf_56 : decode cX13_regretsOf 56 = .ok (.lload_n 2, 1) := by decide +kernel
theorem dX13_regretsOf_57 : decode cX13_regretsOf 57 = .ok (.lreturn, 1) := by decide +kernel
theorem dX13_sore_0 : decode cX13_sore 0 = .ok (.aload_n 0, 1) := by decide +kernel
theorem dX13_sore_1 : decode cX13_sore 1 = .ok (.iconst 0, 1) := by decide +kernel
theorem dX13_sore_2 : decode cX13_sore 2 = .ok (.putfield 102, 3) := by decide +kernel
theorem dX13_sore_5 : decode cX13_sore 5 = .ok (.aload_n 0, 1) := by decide +kernel
theorem dX13_sore_6 : decode cX13_sore 6 = .ok (.iload_n 1, 1) := by decide +kernel
theorem dX13_sore_7 : decode cX13_sore 7 = .ok (.invokevirtual 313, 3) := by decide +kernel
theorem dX13_sore_10 : decode cX13_sore 10 = .ok (.ifCond .eq 13, 3) := by decide +kernel
theorem dX13_sore_13 : decode cX13_sore 13 = .ok (.iload_n 2, 1) := by decide +kernel
theorem dX13_sore_14 : decode cX13_sore 14 = .ok (.i2l, 1) := by decide +kernel
theorem dX13_sore_15 : decode cX13_sore 15 = .ok (.lconst 0, 1) := by decide +kernel
theorem dX13_sore_16 : decode cX13_sore 16 = .ok (.lconst 1, 1) := by decide +kernel
theorem dX13_sore_17 : decode cX13_sore 17 = .ok (.invokestatic 231, 3) := by decide +kernel
theorem dX13_sore_20 : decode cX13_sore 20 = .ok (.ifCond .ne 7, 3) := by decide +kernel
theorem dX13_sore_23 : decode cX13_sore 23 = .ok (.ldc_w 376, 3) := by decide +kernel
theorem dX13_sore_26 : decode cX13_sore 26 = .ok (.ireturn, 1) := by decide +kernel
theorem dX13_sore_27 : decode cX13_sore 27 = .ok (.iload_n 2, 1) := by decide +kernel
theorem dX13_sore_28 : decode cX13_sore 28 = .ok (.iconst 1, 1) := by decide +kernel
theorem dX13_sore_29 : decode cX13_sore 29 = .ok (.if_icmp .ne 10, 3) := by decide +kernel
theorem dX13_sore_32 : decode cX13_sore 32 = .ok (.aload_n 0, 1) := by decide +kernel
theorem dX13_sore_33 : decode cX13_sore 33 = .ok (.iload_n 1, 1) := by decide +kernel
theorem dX13_sore_34 : decode cX13_sore 34 = .ok (.invokevirtual 393, 3) := by decide +kernel
theorem dX13_sore_37 : decode cX13_sore 37 = .ok (.l2i, 1) := by decide +kernel
theorem dX13_sore_38 : decode cX13_sore 38 = .ok (.ireturn, 1) := by decide +kernel
theorem dX13_sore_39 : decode cX13_sore 39 = .ok (.iconst (-1), 1) := by decide +kernel
theorem dX13_sore_40 : decode cX13_sore 40 = .ok (.istore_n 3, 1) := by decide +kernel
theorem dX13_sore_41 : decode cX13_sore 41 = .ok (.lconst 0, 1) := by decide +kernel
theorem dX13_sore_42 : decode cX13_sore 42 = .ok (.lstore 4, 2) := by decide +kernel
theorem dX13_sore_44 : decode cX13_sore 44 = .ok (.iconst 0, 1) := by decide +kernel
theorem dX13_sore_45 : decode cX13_sore 45 = .ok (.istore 6, 2) := by decide +kernel
theorem dX13_sore_47 : decode cX13_sore 47 = .ok (.iload 6, 2) := by decide +kernel
theorem dX13_sore_49 : decode cX13_sore 49 = .ok (.aload_n 0, 1) := by decide +kernel
theorem dX13_sore_50 : decode cX13_sore 50 = .ok (.getfield 49, 3) := by decide +kernel
theorem dX13_sore_53 : decode cX13_sore 53 = .ok (.aload_n 0, 1) := by decide +kernel
theorem dX13_sore_54 : decode cX13_sore 54 = .ok (.getfield 52, 3) := by decide +kernel
theorem dX13_sore_57 : decode cX13_sore 57 = .ok (.iaload, 1) := by decide +kernel
theorem dX13_sore_58 : decode cX13_sore 58 = .ok (.if_icmp .ge 60, 3) := by decide +kernel
theorem dX13_sore_61 : decode cX13_sore 61 = .ok (.aload_n 0, 1) := by decide +kernel
theorem dX13_sore_62 : decode cX13_sore 62 = .ok (.iload_n 1, 1) := by decide +kernel
theorem dX13_sore_63 : decode cX13_sore 63 = .ok (.iload 6, 2) := by decide +kernel
theorem dX13_sore_65 : decode cX13_sore 65 = .ok (.invokevirtual 387, 3) := by decide +kernel
theorem dX13_sore_68 : decode cX13_sore 68 = .ok (.istore 7, 2) := by decide +kernel
theorem dX13_sore_70 : decode cX13_sore 70 = .ok (.iload 7, 2) := by decide +kernel
theorem dX13_sore_72 : decode cX13_sore 72 = .ok (.iconst (-1), 1) := by decide +kernel
theorem dX13_sore_73 : decode cX13_sore 73 = .ok (.if_icmp .ne 6, 3) := by decide +kernel
theorem dX13_sore_76 : decode cX13_sore 76 = .ok (.goto 36, 3) := by decide +kernel
theorem dX13_sore_79 : decode cX13_sore 79 = .ok (.aload_n 0, 1) := by decide +kernel
theorem dX13_sore_80 : decode cX13_sore 80 = .ok (.iload 6, 2) := by decide +kernel
theorem dX13_sore_82 : decode cX13_sore 82 = .ok (.iload 7, 2) := by decide +kernel
theorem dX13_sore_84 : decode cX13_sore 84 = .ok (.invokevirtual 390, 3) := by decide +kernel
theorem dX13_sore_87 : decode cX13_sore 87 = .ok (.lstore 8, 2) := by decide +kernel
theorem dX13_sore_89 : decode cX13_sore 89 = .ok (.iload_n 3, 1) := by decide +kernel
theorem dX13_sore_90 : decode cX13_sore 90 = .ok (.iconst (-1), 1) := by decide +kernel
theorem dX13_sore_91 : decode cX13_sore 91 = .ok (.if_icmp .eq 14, 3) := by decide +kernel
theorem dX13_sore_94 : decode cX13_sore 94 = .ok (.lload 8, 2) := by decide +kernel
theorem dX13_sore_96 : decode cX13_sore 96 = .ok (.lload 4, 2) := by decide +kernel
theorem dX13_sore_98 : decode cX13_sore 98 = .ok (.lcmp, 1) := by decide +kernel
theorem dX13_sore_99 : decode cX13_sore 99 = .ok (.ifCond .gt 6, 3) := by decide +kernel
theorem dX13_sore_102 : decode cX13_sore 102 = .ok (.goto 10, 3) := by decide +kernel
theorem dX13_sore_105 : decode cX13_sore 105 = .ok (.iload 6, 2) := by decide +kernel
theorem dX13_sore_107 : decode cX13_sore 107 = .ok (.istore_n 3, 1) := by decide +kernel
theorem dX13_sore_108 : decode cX13_sore 108 = .ok (.lload 8, 2) := by decide +kernel
theorem dX13_sore_110 : decode cX13_sore 110 = .ok (.lstore 4, 2) := by decide +kernel
theorem dX13_sore_112 : decode cX13_sore 112 = .ok (.iinc 6 1, 3) := by decide +kernel
theorem dX13_sore_115 : decode cX13_sore 115 = .ok (.goto (-68), 3) := by decide +kernel
theorem dX13_sore_118 : decode cX13_sore 118 = .ok (.iload_n 3, 1) := by decide +kernel
theorem dX13_sore_119 : decode cX13_sore 119 = .ok (.ireturn, 1) := by decide +kernel
theorem dX13_apology_0 : decode cX13_apology 0 = .ok (.aload_n 0, 1) := by decide +kernel
theorem dX13_apology_1 : decode cX13_apology 1 = .ok (.iconst 0, 1) := by decide +kernel
theorem dX13_apology_2 : decode cX13_apology 2 = .ok (.putfield 102, 3) := by decide +kernel
theorem dX13_apology_5 : decode cX13_apology 5 = .ok (.aload_n 0, 1) := by decide +kernel
theorem dX13_apology_6 : decode cX13_apology 6 = .ok (.iload_n 1, 1) := by decide +kernel
theorem dX13_apology_7 : decode cX13_apology 7 = .ok (.invokevirtual 313, 3) := by decide +kernel
theorem dX13_apology_10 : decode cX13_apology 10 = .ok (.ifCond .eq 16, 3) := by decide +kernel
theorem dX13_apology_13 : decode cX13_apology 13 = .ok (.aload_n 0, 1) := by decide +kernel
theorem dX13_apology_14 : decode cX13_apology 14 = .ok (.iload_n 2, 1) := by decide +kernel
theorem dX13_apology_15 : decode cX13_apology 15 = .ok (.invokevirtual 313, 3) := by decide +kernel
theorem dX13_apology_18 : decode cX13_apology 18 = .ok (.ifCond .eq 8, 3) := by decide +kernel
theorem dX13_apology_21 : decode cX13_apology 21 = .ok (.iload_n 1, 1) := by decide +kernel
theorem dX13_apology_22 : decode cX13_apology 22 = .ok (.iload_n 2, 1) := by decide +kernel
theorem dX13_apology_23 : decode cX13_apology 23 = .ok (.if_icmp .ne 7, 3) := by decide +kernel
theorem dX13_apology_26 : decode cX13_apology 26 = .ok (.ldc_w 376, 3) := by decide +kernel
theorem dX13_apology_29 : decode cX13_apology 29 = .ok (.ireturn, 1) := by decide +kernel
theorem dX13_apology_30 : decode cX13_apology 30 = .ok (.aload_n 0, 1) := by decide +kernel
theorem dX13_apology_31 : decode cX13_apology 31 = .ok (.iload_n 1, 1) := by decide +kernel
theorem dX13_apology_32 : decode cX13_apology 32 = .ok (.iload_n 2, 1) := by decide +kernel
theorem dX13_apology_33 : decode cX13_apology 33 = .ok (.invokevirtual 340, 3) := by decide +kernel
theorem dX13_apology_36 : decode cX13_apology 36 = .ok (.istore_n 3, 1) := by decide +kernel
theorem dX13_apology_37 : decode cX13_apology 37 = .ok (.aload_n 0, 1) := by decide +kernel
theorem dX13_apology_38 : decode cX13_apology 38 = .ok (.iload_n 3, 1) := by decide +kernel
theorem dX13_apology_39 : decode cX13_apology 39 = .ok (.aload_n 0, 1) := by decide +kernel
theorem dX13_apology_40 : decode cX13_apology 40 = .ok (.iload_n 1, 1) := by decide +kernel
theorem dX13_apology_41 : decode cX13_apology 41 = .ok (.iload_n 3, 1) := by decide +kernel
theorem dX13_apology_42 : decode cX13_apology 42 = .ok (.invokevirtual 387, 3) := by decide +kernel
theorem dX13_apology_45 : decode cX13_apology 45 = .ok (.invokevirtual 383, 3) := by decide +kernel
theorem dX13_apology_48 : decode cX13_apology 48 = .ok (.aload_n 0, 1) := by decide +kernel
theorem dX13_apology_49 : decode cX13_apology 49 = .ok (.iload_n 3, 1) := by decide +kernel
theorem dX13_apology_50 : decode cX13_apology 50 = .ok (.aload_n 0, 1) := by decide +kernel
theorem dX13_apology_51 : decode cX13_apology 51 = .ok (.iload_n 2, 1) := by decide +kernel
theorem dX13_apology_52 : decode cX13_apology 52 = .ok (.iload_n 3, 1) := by decide +kernel
theorem dX13_apology_53 : decode cX13_apology 53 = .ok (.invokevirtual 387, 3) := by decide +kernel
theorem dX13_apology_56 : decode cX13_apology 56 = .ok (.invokevirtual 383, 3) := by decide +kernel
theorem dX13_apology_59 : decode cX13_apology 59 = .ok (.lsub, 1) := by decide +kernel
theorem dX13_apology_60 : decode cX13_apology 60 = .ok (.l2i, 1) := by decide +kernel
theorem dX13_apology_61 : decode cX13_apology 61 = .ok (.ireturn, 1) := by decide +kernel
theorem dX13_isLaw_0 : decode cX13_isLaw 0 = .ok (.aload_n 0, 1) := by decide +kernel
theorem dX13_isLaw_1 : decode cX13_isLaw 1 = .ok (.getfield 60, 3) := by decide +kernel
theorem dX13_isLaw_4 : decode cX13_isLaw 4 = .ok (.iconst 3, 1) := by decide +kernel
theorem dX13_isLaw_5 : decode cX13_isLaw 5 = .ok (.iaload, 1) := by decide +kernel
theorem dX13_isLaw_6 : decode cX13_isLaw 6 = .ok (.iload_n 1, 1) := by decide +kernel
theorem dX13_isLaw_7 : decode cX13_isLaw 7 = .ok (.invokestatic 224, 3) := by decide +kernel
theorem dX13_isLaw_10 : decode cX13_isLaw 10 = .ok (.ireturn, 1) := by decide +kernel
theorem dX13_weightOf_0 : decode cX13_weightOf 0 = .ok (.aload_n 0, 1) := by decide +kernel
theorem dX13_weightOf_1 : decode cX13_weightOf 1 = .ok (.iload_n 1, 1) := by decide +kernel
theorem dX13_weightOf_2 : decode cX13_weightOf 2 = .ok (.invokevirtual 324, 3) := by decide +kernel
theorem dX13_weightOf_5 : decode cX13_weightOf 5 = .ok (.ifCond .eq 20, 3) := by decide +kernel
theorem dX13_weightOf_8 : decode cX13_weightOf 8 = .ok (.aload_n 0, 1) := by decide +kernel
theorem dX13_weightOf_9 : decode cX13_weightOf 9 = .ok (.iload_n 1, 1) := by decide +kernel
theorem dX13_weightOf_10 : decode cX13_weightOf 10 = .ok (.invokevirtual 367, 3) := by decide +kernel
theorem dX13_weightOf_13 : decode cX13_weightOf 13 = .ok (.iconst 1, 1) := by decide +kernel
theorem dX13_weightOf_14 : decode cX13_weightOf 14 = .ok (.if_icmp .ne 13, 3) := by decide +kernel
theorem dX13_weightOf_17 : decode cX13_weightOf 17 = .ok (.aload_n 0, 1) := by decide +kernel
theorem dX13_weightOf_18 : decode cX13_weightOf 18 = .ok (.iconst 1, 1) := by decide +kernel
theorem dX13_weightOf_19 : decode cX13_weightOf 19 = .ok (.invokevirtual 396, 3) := by decide +kernel
theorem dX13_weightOf_22 : decode cX13_weightOf 22 = .ok (.ifCond .ne 5, 3) := by decide +kernel
theorem dX13_weightOf_25 : decode cX13_weightOf 25 = .ok (.lconst 0, 1) := by decide +kernel
theorem dX13_weightOf_26 : decode cX13_weightOf 26 = .ok (.lreturn, 1) := by decide +kernel
theorem dX13_weightOf_27 : decode cX13_weightOf 27 = .ok (.lconst 1, 1) := by decide +kernel
theorem dX13_weightOf_28 : decode cX13_weightOf 28 = .ok (.aload_n 0, 1) := by decide +kernel
theorem dX13_weightOf_29 : decode cX13_weightOf 29 = .ok (.iload_n 1, 1) := by decide +kernel
theorem dX13_weightOf_30 : decode cX13_weightOf 30 = .ok (.invokevirtual 393, 3) := by decide +kernel
theorem dX13_weightOf_33 : decode cX13_weightOf 33 = .ok (.ldc2_w 377, 3) := by decide +kernel
theorem dX13_weightOf_36 : decode cX13_weightOf 36 = .ok (.ldiv, 1) := by decide +kernel
theorem dX13_weightOf_37 : decode cX13_weightOf 37 = .ok (.ladd, 1) := by decide +kernel
theorem dX13_weightOf_38 : decode cX13_weightOf 38 = .ok (.lreturn, 1) := by decide +kernel
theorem dX13_share_0 : decode cX13_share 0 = .ok (.aload_n 0, 1) := by decide +kernel
theorem dX13_share_1 : decode cX13_share 1 = .ok (.iconst 0, 1) := by decide +kernel
theorem dX13_share_2 : decode cX13_share 2 = .ok (.putfield 102, 3) := by decide +kernel
theorem dX13_share_5 : decode cX13_share 5 = .ok (.aload_n 0, 1) := by decide +kernel
theorem dX13_share_6 : decode cX13_share 6 = .ok (.iload_n 1, 1) := by decide +kernel
theorem dX13_share_7 : decode cX13_share 7 = .ok (.invokevirtual 313, 3) := by decide +kernel
theorem dX13_share_10 : decode cX13_share 10 = .ok (.ifCond .eq 23, 3) := by decide +kernel
theorem dX13_share_13 : decode cX13_share 13 = .ok (.iload_n 2, 1) := by decide +kernel
theorem dX13_share_14 : decode cX13_share 14 = .ok (.i2l, 1) := by decide +kernel
theorem dX13_share_15 : decode cX13_share 15 = .ok (.lconst 0, 1) := by decide +kernel
theorem dX13_share_16 : decode cX13_share 16 = .ok (.ldc2_w 399, 3) := by decide +kernel
theorem dX13_share_19 : decode cX13_share 19 = .ok (.invokestatic 231, 3) := by decide +kernel
theorem dX13_share_22 : decode cX13_share 22 = .ok (.ifCond .eq 11, 3) := by decide +kernel
theorem dX13_share_25 : decode cX13_share 25 = .ok (.aload_n 0, 1) := by decide +kernel
theorem dX13_share_26 : decode cX13_share 26 = .ok (.iload_n 1, 1) := by decide +kernel
theorem dX13_share_27 : decode cX13_share 27 = .ok (.invokevirtual 324, 3) := by decide +kernel
theorem dX13_share_30 : decode cX13_share 30 = .ok (.ifCond .ne 5, 3) := by decide +kernel
theorem dX13_share_33 : decode cX13_share 33 = .ok (.iconst (-1), 1) := by decide +kernel
theorem dX13_share_34 : decode cX13_share 34 = .ok (.ireturn, 1) := by decide +kernel
theorem dX13_share_35 : decode cX13_share 35 = .ok (.lconst 0, 1) := by decide +kernel
theorem dX13_share_36 : decode cX13_share 36 = .ok (.lstore_n 3, 1) := by decide +kernel
theorem dX13_share_37 : decode cX13_share 37 = .ok (.iconst 0, 1) := by decide +kernel
theorem dX13_share_38 : decode cX13_share 38 = .ok (.istore 5, 2) := by decide +kernel
theorem dX13_share_40 : decode cX13_share 40 = .ok (.iload 5, 2) := by decide +kernel
theorem dX13_share_42 : decode cX13_share 42 = .ok (.aload_n 0, 1) := by decide +kernel
theorem dX13_share_43 : decode cX13_share 43 = .ok (.getfield 46, 3) := by decide +kernel
theorem dX13_share_46 : decode cX13_share 46 = .ok (.aload_n 0, 1) := by decide +kernel
theorem dX13_share_47 : decode cX13_share 47 = .ok (.getfield 52, 3) := by decide +kernel
theorem dX13_share_50 : decode cX13_share 50 = .ok (.iaload, 1) := by decide +kernel
theorem dX13_share_51 : decode cX13_share 51 = .ok (.if_icmp .ge 18, 3) := by decide +kernel
theorem dX13_share_54 : decode cX13_share 54 = .ok (.lload_n 3, 1) := by decide +kernel
theorem dX13_share_55 : decode cX13_share 55 = .ok (.aload_n 0, 1) := by decide +kernel
theorem dX13_share_56 : decode cX13_share 56 = .ok (.iload 5, 2) := by decide +kernel
theorem dX13_share_58 : decode cX13_share 58 = .ok (.invokevirtual 401, 3) := by decide +kernel
theorem dX13_share_61 : decode cX13_share 61 = .ok (.ladd, 1) := by decide +kernel
theorem dX13_share_62 : decode cX13_share 62 = .ok (.lstore_n 3, 1) := by decide +kernel
theorem dX13_share_63 : decode cX13_share 63 = .ok (.iinc 5 1, 3) := by decide +kernel
theorem dX13_share_66 : decode cX13_share 66 = .ok (.goto (-26), 3) := by decide +kernel
theorem dX13_share_69 : decode cX13_share 69 = .ok (.lload_n 3, 1) := by decide +kernel
theorem dX13_share_70 : decode cX13_share 70 = .ok (.lconst 0, 1) := by decide +kernel
theorem dX13_share_71 : decode cX13_share 71 = .ok (.lcmp, 1) := by decide +kernel
theorem dX13_share_72 : decode cX13_share 72 = .ok (.ifCond .ne 5, 3) := by decide +kernel
theorem dX13_share_75 : decode cX13_share 75 = .ok (.iconst (-1), 1) := by decide +kernel
theorem dX13_share_76 : decode cX13_share 76 = .ok (.ireturn, 1) := by decide +kernel
theorem dX13_share_77 : decode cX13_share 77 = .ok (.iload_n 2, 1) := by decide +kernel
theorem dX13_share_78 : decode cX13_share 78 = .ok (.i2l, 1) := by decide +kernel
theorem dX13_share_79 : decode cX13_share 79 = .ok (.lstore 5, 2) := by decide +kernel
theorem dX13_share_81 : decode cX13_share 81 = .ok (.iconst 0, 1) := by decide +kernel
theorem dX13_share_82 : decode cX13_share 82 = .ok (.istore 7, 2) := by decide +kernel
theorem dX13_share_84 : decode cX13_share 84 = .ok (.iload 7, 2) := by decide +kernel
theorem dX13_share_86 : decode cX13_share 86 = .ok (.aload_n 0, 1) := by decide +kernel
theorem dX13_share_87 : decode cX13_share 87 = .ok (.getfield 46, 3) := by decide +kernel
theorem dX13_share_90 : decode cX13_share 90 = .ok (.aload_n 0, 1) := by decide +kernel
theorem dX13_share_91 : decode cX13_share 91 = .ok (.getfield 52, 3) := by decide +kernel
theorem dX13_share_94 : decode cX13_share 94 = .ok (.iaload, 1) := by decide +kernel
theorem dX13_share_95 : decode cX13_share 95 = .ok (.if_icmp .ge 25, 3) := by decide +kernel
theorem dX13_share_98 : decode cX13_share 98 = .ok (.lload 5, 2) := by decide +kernel
theorem dX13_share_100 : decode cX13_share 100 = .ok (.iload_n 2, 1) := by decide +kernel
theorem dX13_share_101 : decode cX13_share 101 = .ok (.i2l, 1) := by decide +kernel
theorem dX13_share_102 : decode cX13_share 102 = .ok (.aload_n 0, 1) := by decide +kernel
theorem dX13_share_103 : decode cX13_share 103 = .ok (.iload 7, 2) := by decide +kernel
theorem dX13_share_105 : decode cX13_share 105 = .ok (.invokevirtual 401, 3) := by decide +kernel
theorem dX13_share_108 : decode cX13_share 108 = .ok (.lmul, 1) := by decide +kernel
theorem dX13_share_109 : decode cX13_share 109 = .ok (.lload_n 3, 1) := by decide +kernel
theorem dX13_share_110 : decode cX13_share 110 = .ok (.ldiv, 1) := by decide +kernel
theorem dX13_share_111 : decode cX13_share 111 = .ok (.lsub, 1) := by decide +kernel
theorem dX13_share_112 : decode cX13_share 112 = .ok (.lstore 5, 2) := by decide +kernel
theorem dX13_share_114 : decode cX13_share 114 = .ok (.iinc 7 1, 3) := by decide +kernel
theorem dX13_share_117 : decode cX13_share 117 = .ok (.goto (-33), 3) := by decide +kernel
theorem dX13_share_120 : decode cX13_share 120 = .ok (.iconst 0, 1) := by decide +kernel
theorem dX13_share_121 : decode cX13_share 121 = .ok (.istore 7, 2) := by decide +kernel
theorem dX13_share_123 : decode cX13_share 123 = .ok (.iconst 0, 1) := by decide +kernel
theorem dX13_share_124 : decode cX13_share 124 = .ok (.istore 8, 2) := by decide +kernel
theorem dX13_share_126 : decode cX13_share 126 = .ok (.iload 8, 2) := by decide +kernel
theorem dX13_share_128 : decode cX13_share 128 = .ok (.iload_n 1, 1) := by decide +kernel
theorem dX13_share_129 : decode cX13_share 129 = .ok (.if_icmp .ge 30, 3) := by decide +kernel
theorem dX13_share_132 : decode cX13_share 132 = .ok (.iload 7, 2) := by decide +kernel
theorem dX13_share_134 : decode cX13_share 134 = .ok (.aload_n 0, 1) := by decide +kernel
theorem dX13_share_135 : decode cX13_share 135 = .ok (.iload 8, 2) := by decide +kernel
theorem dX13_share_137 : decode cX13_share 137 = .ok (.invokevirtual 401, 3) := by decide +kernel
theorem dX13_share_140 : decode cX13_share 140 = .ok (.lconst 0, 1) := by decide +kernel
theorem dX13_share_141 : decode cX13_share 141 = .ok (.lcmp, 1) := by decide +kernel
theorem dX13_share_142 : decode cX13_share 142 = .ok (.ifCond .le 7, 3) := by decide +kernel
theorem dX13_share_145 : decode cX13_share 145 = .ok (.iconst 1, 1) := by decide +kernel
theorem dX13_share_146 : decode cX13_share 146 = .ok (.goto 4, 3) := by decide +kernel
theorem dX13_share_149 : decode cX13_share 149 = .ok (.iconst 0, 1) := by decide +kernel
theorem dX13_share_150 : decode cX13_share 150 = .ok (.iadd, 1) := by decide +kernel
theorem dX13_share_151 : decode cX13_share 151 = .ok (.istore 7, 2) := by decide +kernel
theorem dX13_share_153 : decode cX13_share 153 = .ok (.iinc 8 1, 3) := by decide +kernel
theorem dX13_share_156 : decode cX13_share 156 = .ok (.goto (-30), 3) := by decide +kernel
theorem dX13_share_159 : decode cX13_share 159 = .ok (.iload_n 2, 1) := by decide +kernel
theorem dX13_share_160 : decode cX13_share 160 = .ok (.i2l, 1) := by decide +kernel
theorem dX13_share_161 : decode cX13_share 161 = .ok (.aload_n 0, 1) := by decide +kernel
theorem dX13_share_162 : decode cX13_share 162 = .ok (.iload_n 1, 1) := by decide +kernel
theorem dX13_share_163 : decode cX13_share 163 = .ok (.invokevirtual 401, 3) := by decide +kernel
theorem dX13_share_166 : decode cX13_share 166 = .ok (.lmul, 1) := by decide +kernel
theorem dX13_share_167 : decode cX13_share 167 = .ok (.lload_n 3, 1) := by decide +kernel
theorem dX13_share_168 : decode cX13_share 168 = .ok (.ldiv, 1) := by decide +kernel
theorem dX13_share_169 : decode cX13_share 169 = .ok (.l2i, 1) := by decide +kernel
theorem dX13_share_170 : decode cX13_share 170 = .ok (.aload_n 0, 1) := by decide +kernel
theorem dX13_share_171 : decode cX13_share 171 = .ok (.iload_n 1, 1) := by decide +kernel
theorem dX13_share_172 : decode cX13_share 172 = .ok (.invokevirtual 401, 3) := by decide +kernel
theorem dX13_share_175 : decode cX13_share 175 = .ok (.lconst 0, 1) := by decide +kernel
theorem dX13_share_176 : decode cX13_share 176 = .ok (.lcmp, 1) := by decide +kernel
theorem dX13_share_177 : decode cX13_share 177 = .ok (.ifCond .le 16, 3) := by decide +kernel
theorem dX13_share_180 : decode cX13_share 180 = .ok (.iload 7, 2) := by decide +kernel
theorem dX13_share_182 : decode cX13_share 182 = .ok (.i2l, 1) := by decide +kernel
theorem dX13_share_183 : decode cX13_share 183 = .ok (.lload 5, 2) := by decide +kernel
theorem dX13_share_185 : decode cX13_share 185 = .ok (.lcmp, 1) := by decide +kernel
theorem dX13_share_186 : decode cX13_share 186 = .ok (.ifCond .ge 7, 3) := by decide +kernel
theorem dX13_share_189 : decode cX13_share 189 = .ok (.iconst 1, 1) := by decide +kernel
theorem dX13_share_190 : decode cX13_share 190 = .ok (.goto 4, 3) := by decide +kernel
theorem dX13_share_193 : decode cX13_share 193 = .ok (.iconst 0, 1) := by decide +kernel
theorem dX13_share_194 : decode cX13_share 194 = .ok (.iadd, 1) := by decide +kernel
theorem dX13_share_195 : decode cX13_share 195 = .ok (.ireturn, 1) := by decide +kernel
theorem dX13_demandOf_0 : decode cX13_demandOf 0 = .ok (.aload_n 0, 1) := by decide +kernel
theorem dX13_demandOf_1 : decode cX13_demandOf 1 = .ok (.iload_n 1, 1) := by decide +kernel
theorem dX13_demandOf_2 : decode cX13_demandOf 2 = .ok (.invokevirtual 367, 3) := by decide +kernel
theorem dX13_demandOf_5 : decode cX13_demandOf 5 = .ok (.iconst 1, 1) := by decide +kernel
theorem dX13_demandOf_6 : decode cX13_demandOf 6 = .ok (.if_icmp .ne 13, 3) := by decide +kernel
theorem dX13_demandOf_9 : decode cX13_demandOf 9 = .ok (.aload_n 0, 1) := by decide +kernel
theorem dX13_demandOf_10 : decode cX13_demandOf 10 = .ok (.iconst 1, 1) := by decide +kernel
theorem dX13_demandOf_11 : decode cX13_demandOf 11 = .ok (.invokevirtual 396, 3) := by decide +kernel
theorem dX13_demandOf_14 : decode cX13_demandOf 14 = .ok (.ifCond .ne 5, 3) := by decide +kernel
theorem dX13_demandOf_17 : decode cX13_demandOf 17 = .ok (.iconst 0, 1) := by decide +kernel
theorem dX13_demandOf_18 : decode cX13_demandOf 18 = .ok (.ireturn, 1) := by decide +kernel
theorem dX13_demandOf_19 : decode cX13_demandOf 19 = .ok (.aload_n 0, 1) := by decide +kernel
theorem dX13_demandOf_20 : decode cX13_demandOf 20 = .ok (.iload_n 1, 1) := by decide +kernel
theorem dX13_demandOf_21 : decode cX13_demandOf 21 = .ok (.iconst 0, 1) := by decide +kernel
theorem dX13_demandOf_22 : decode cX13_demandOf 22 = .ok (.invokevirtual 318, 3) := by decide +kernel
theorem dX13_demandOf_25 : decode cX13_demandOf 25 = .ok (.bipush 10, 2) := by decide +kernel
theorem dX13_demandOf_27 : decode cX13_demandOf 27 = .ok (.aload_n 0, 1) := by decide +kernel
theorem dX13_demandOf_28 : decode cX13_demandOf 28 = .ok (.getfield 37, 3) := by decide +kernel
theorem dX13_demandOf_31 : decode cX13_demandOf 31 = .ok (.aload_n 0, 1) := by decide +kernel
theorem dX13_demandOf_32 : decode cX13_demandOf 32 = .ok (.aload_n 0, 1) := by decide +kernel
theorem dX13_demandOf_33 : decode cX13_demandOf 33 = .ok (.getfield 52, 3) := by decide +kernel
theorem dX13_demandOf_36 : decode cX13_demandOf 36 = .ok (.iload_n 1, 1) := by decide +kernel
theorem dX13_demandOf_37 : decode cX13_demandOf 37 = .ok (.invokevirtual 235, 3) := by decide +kernel
theorem dX13_demandOf_40 : decode cX13_demandOf 40 = .ok (.iconst 4, 1) := by decide +kernel
theorem dX13_demandOf_41 : decode cX13_demandOf 41 = .ok (.iadd, 1) := by decide +kernel
theorem dX13_demandOf_42 : decode cX13_demandOf 42 = .ok (.iaload, 1) := by decide +kernel
theorem dX13_demandOf_43 : decode cX13_demandOf 43 = .ok (.isub, 1) := by decide +kernel
theorem dX13_demandOf_44 : decode cX13_demandOf 44 = .ok (.imul, 1) := by decide +kernel
theorem dX13_demandOf_45 : decode cX13_demandOf 45 = .ok (.bipush 10, 2) := by decide +kernel
theorem dX13_demandOf_47 : decode cX13_demandOf 47 = .ok (.idiv, 1) := by decide +kernel
theorem dX13_demandOf_48 : decode cX13_demandOf 48 = .ok (.ireturn, 1) := by decide +kernel
theorem dX13_demand_0 : decode cX13_demand 0 = .ok (.aload_n 0, 1) := by decide +kernel
theorem dX13_demand_1 : decode cX13_demand 1 = .ok (.iconst 0, 1) := by decide +kernel
theorem dX13_demand_2 : decode cX13_demand 2 = .ok (.putfield 102, 3) := by decide +kernel
theorem dX13_demand_5 : decode cX13_demand 5 = .ok (.aload_n 0, 1) := by decide +kernel
theorem dX13_demand_6 : decode cX13_demand 6 = .ok (.iload_n 1, 1) := by decide +kernel
theorem dX13_demand_7 : decode cX13_demand 7 = .ok (.invokevirtual 313, 3) := by decide +kernel
theorem dX13_demand_10 : decode cX13_demand 10 = .ok (.ifCond .eq 19, 3) := by decide +kernel
theorem dX13_demand_13 : decode cX13_demand 13 = .ok (.aload_n 0, 1) := by decide +kernel
theorem dX13_demand_14 : decode cX13_demand 14 = .ok (.iload_n 1, 1) := by decide +kernel
theorem dX13_demand_15 : decode cX13_demand 15 = .ok (.invokevirtual 324, 3) := by decide +kernel
theorem dX13_demand_18 : decode cX13_demand 18 = .ok (.ifCond .eq 11, 3) := by decide +kernel
theorem dX13_demand_21 : decode cX13_demand 21 = .ok (.aload_n 0, 1) := by decide +kernel
theorem dX13_demand_22 : decode cX13_demand 22 = .ok (.iload_n 1, 1) := by decide +kernel
theorem dX13_demand_23 : decode cX13_demand 23 = .ok (.invokevirtual 404, 3) := by decide +kernel
theorem dX13_demand_26 : decode cX13_demand 26 = .ok (.goto 4, 3) := by decide +kernel
theorem dX13_demand_29 : decode cX13_demand 29 = .ok (.iconst (-1), 1) := by decide +kernel
theorem dX13_demand_30 : decode cX13_demand 30 = .ok (.ireturn, 1) := by decide +kernel
theorem dX13_demands_0 : decode cX13_demands 0 = .ok (.iconst 0, 1) := by decide +kernel
theorem dX13_demands_1 : decode cX13_demands 1 = .ok (.istore_n 2, 1) := by decide +kernel
theorem dX13_demands_2 : decode cX13_demands 2 = .ok (.iconst 0, 1) := by decide +kernel
theorem dX13_demands_3 : decode cX13_demands 3 = .ok (.istore_n 3, 1) := by decide +kernel
theorem dX13_demands_4 : decode cX13_demands 4 = .ok (.iload_n 3, 1) := by decide +kernel
theorem dX13_demands_5 : decode cX13_demands 5 = .ok (.aload_n 0, 1) := by decide +kernel
theorem dX13_demands_6 : decode cX13_demands 6 = .ok (.getfield 46, 3) := by decide +kernel
theorem dX13_demands_9 : decode cX13_demands 9 = .ok (.aload_n 0, 1) := by decide +kernel
theorem dX13_demands_10 : decode cX13_demands 10 = .ok (.getfield 52, 3) := by decide +kernel
theorem dX13_demands_13 : decode cX13_demands 13 = .ok (.iaload, 1) := by decide +kernel
theorem dX13_demands_14 : decode cX13_demands 14 = .ok (.if_icmp .ge 37, 3) := by decide +kernel
theorem dX13_demands_17 : decode cX13_demands 17 = .ok (.iload_n 2, 1) := by decide +kernel
theorem dX13_demands_18 : decode cX13_demands 18 = .ok (.iload_n 1, 1) := by decide +kernel
theorem dX13_demands_19 : decode cX13_demands 19 = .ok (.iload_n 3, 1) := by decide +kernel
theorem dX13_demands_20 : decode cX13_demands 20 = .ok (.invokestatic 224, 3) := by decide +kernel
theorem dX13_demands_23 : decode cX13_demands 23 = .ok (.ifCond .ne 19, 3) := by decide +kernel
theorem dX13_demands_26 : decode cX13_demands 26 = .ok (.aload_n 0, 1) := by decide +kernel
theorem dX13_demands_27 : decode cX13_demands 27 = .ok (.iload_n 3, 1) := by decide +kernel
theorem dX13_demands_28 : decode cX13_demands 28 = .ok (.invokevirtual 324, 3) := by decide +kernel
theorem dX13_demands_31 : decode cX13_demands 31 = .ok (.ifCond .eq 11, 3) := by decide +kernel
theorem dX13_demands_34 : decode cX13_demands 34 = .ok (.aload_n 0, 1) := by decide +kernel
theorem dX13_demands_35 : decode cX13_demands 35 = .ok (.iload_n 3, 1) := by decide +kernel
theorem dX13_demands_36 : decode cX13_demands 36 = .ok (.invokevirtual 404, 3) := by decide +kernel
theorem dX13_demands_39 : decode cX13_demands 39 = .ok (.goto 4, 3) := by decide +kernel
theorem dX13_demands_42 : decode cX13_demands 42 = .ok (.iconst 0, 1) := by decide +kernel
theorem dX13_demands_43 : decode cX13_demands 43 = .ok (.iadd, 1) := by decide +kernel
theorem dX13_demands_44 : decode cX13_demands 44 = .ok (.istore_n 2, 1) := by decide +kernel
theorem dX13_demands_45 : decode cX13_demands 45 = .ok (.iinc 3 1, 3) := by decide +kernel
theorem dX13_demands_48 : decode cX13_demands 48 = .ok (.goto (-44), 3) := by decide +kernel
theorem dX13_demands_51 : decode cX13_demands 51 = .ok (.iload_n 2, 1) := by decide +kernel
theorem dX13_demands_52 : decode cX13_demands 52 = .ok (.ireturn, 1) := by decide +kernel
theorem dX13_terms_0 : decode cX13_terms 0 = .ok (.aload_n 0, 1) := by decide +kernel
theorem dX13_terms_1 : decode cX13_terms 1 = .ok (.iconst 0, 1) := by decide +kernel
theorem dX13_terms_2 : decode cX13_terms 2 = .ok (.putfield 102, 3) := by decide +kernel
theorem dX13_terms_5 : decode cX13_terms 5 = .ok (.aload_n 0, 1) := by decide +kernel
theorem dX13_terms_6 : decode cX13_terms 6 = .ok (.getfield 52, 3) := by decide +kernel
theorem dX13_terms_9 : decode cX13_terms 9 = .ok (.iconst (-1), 1) := by decide +kernel
theorem dX13_terms_10 : decode cX13_terms 10 = .ok (.if_icmp .eq 25, 3) := by decide +kernel
theorem dX13_terms_13 : decode cX13_terms 13 = .ok (.iload_n 1, 1) := by decide +kernel
theorem dX13_terms_14 : decode cX13_terms 14 = .ok (.i2l, 1) := by decide +kernel
theorem dX13_terms_15 : decode cX13_terms 15 = .ok (.lconst 0, 1) := by decide +kernel
theorem dX13_terms_16 : decode cX13_terms 16 = .ok (.ldc2_w 399, 3) := by decide +kernel
theorem dX13_terms_19 : decode cX13_terms 19 = .ok (.invokestatic 231, 3) := by decide +kernel
theorem dX13_terms_22 : decode cX13_terms 22 = .ok (.ifCond .eq 13, 3) := by decide +kernel
theorem dX13_terms_25 : decode cX13_terms 25 = .ok (.iload_n 1, 1) := by decide +kernel
theorem dX13_terms_26 : decode cX13_terms 26 = .ok (.aload_n 0, 1) := by decide +kernel
theorem dX13_terms_27 : decode cX13_terms 27 = .ok (.iconst 0, 1) := by decide +kernel
theorem dX13_terms_28 : decode cX13_terms 28 = .ok (.invokevirtual 407, 3) := by decide +kernel
theorem dX13_terms_31 : decode cX13_terms 31 = .ok (.isub, 1) := by decide +kernel
theorem dX13_terms_32 : decode cX13_terms 32 = .ok (.goto 6, 3) := by decide +kernel
theorem dX13_terms_35 : decode cX13_terms 35 = .ok (.ldc_w 376, 3) := by decide +kernel
theorem dX13_terms_38 : decode cX13_terms 38 = .ok (.ireturn, 1) := by decide +kernel
theorem dX13_thereBits_0 : decode cX13_thereBits 0 = .ok (.iconst 0, 1) := by decide +kernel
theorem dX13_thereBits_1 : decode cX13_thereBits 1 = .ok (.istore_n 1, 1) := by decide +kernel
theorem dX13_thereBits_2 : decode cX13_thereBits 2 = .ok (.iconst 0, 1) := by decide +kernel
theorem dX13_thereBits_3 : decode cX13_thereBits 3 = .ok (.istore_n 2, 1) := by decide +kernel
theorem dX13_thereBits_4 : decode cX13_thereBits 4 = .ok (.iload_n 2, 1) := by decide +kernel
theorem dX13_thereBits_5 : decode cX13_thereBits 5 = .ok (.aload_n 0, 1) := by decide +kernel
theorem dX13_thereBits_6 : decode cX13_thereBits 6 = .ok (.getfield 46, 3) := by decide +kernel
theorem dX13_thereBits_9 : decode cX13_thereBits 9 = .ok (.aload_n 0, 1) := by decide +kernel
theorem dX13_thereBits_10 : decode cX13_thereBits 10 = .ok (.getfield 52, 3) := by decide +kernel
theorem dX13_thereBits_13 : decode cX13_thereBits 13 = .ok (.iaload, 1) := by decide +kernel
theorem dX13_thereBits_14 : decode cX13_thereBits 14 = .ok (.if_icmp .ge 27, 3) := by decide +kernel
theorem dX13_thereBits_17 : decode cX13_thereBits 17 = .ok (.iload_n 1, 1) := by decide +kernel
theorem dX13_thereBits_18 : decode cX13_thereBits 18 = .ok (.aload_n 0, 1) := by decide +kernel
theorem dX13_thereBits_19 : decode cX13_thereBits 19 = .ok (.iload_n 2, 1) := by decide +kernel
theorem dX13_thereBits_20 : decode cX13_thereBits 20 = .ok (.invokevirtual 324, 3) := by decide +kernel
theorem dX13_thereBits_23 : decode cX13_thereBits 23 = .ok (.ifCond .eq 9, 3) := by decide +kernel
theorem dX13_thereBits_26 : decode cX13_thereBits 26 = .ok (.iconst 1, 1) := by decide +kernel
theorem dX13_thereBits_27 : decode cX13_thereBits 27 = .ok (.iload_n 2, 1) := by decide +kernel
theorem dX13_thereBits_28 : decode cX13_thereBits 28 = .ok (.ishl, 1) := by decide +kernel
theorem dX13_thereBits_29 : decode cX13_thereBits 29 = .ok (.goto 4, 3) := by decide +kernel
theorem dX13_thereBits_32 : decode cX13_thereBits 32 = .ok (.iconst 0, 1) := by decide +kernel
theorem dX13_thereBits_33 : decode cX13_thereBits 33 = .ok (.ior, 1) := by decide +kernel
theorem dX13_thereBits_34 : decode cX13_thereBits 34 = .ok (.istore_n 1, 1) := by decide +kernel
theorem dX13_thereBits_35 : decode cX13_thereBits 35 = .ok (.iinc 2 1, 3) := by decide +kernel
theorem dX13_thereBits_38 : decode cX13_thereBits 38 = .ok (.goto (-34), 3) := by decide +kernel
theorem dX13_thereBits_41 : decode cX13_thereBits 41 = .ok (.iload_n 1, 1) := by decide +kernel
theorem dX13_thereBits_42 : decode cX13_thereBits 42 = .ok (.ireturn, 1) := by decide +kernel
theorem dX13_away_0 : decode cX13_away 0 = .ok (.aload_n 0, 1) := by decide +kernel
theorem dX13_away_1 : decode cX13_away 1 = .ok (.iconst 0, 1) := by decide +kernel
theorem dX13_away_2 : decode cX13_away 2 = .ok (.putfield 102, 3) := by decide +kernel
theorem dX13_away_5 : decode cX13_away 5 = .ok (.aload_n 0, 1) := by decide +kernel
theorem dX13_away_6 : decode cX13_away 6 = .ok (.getfield 52, 3) := by decide +kernel
theorem dX13_away_9 : decode cX13_away 9 = .ok (.iconst (-1), 1) := by decide +kernel
theorem dX13_away_10 : decode cX13_away 10 = .ok (.if_icmp .eq 15, 3) := by decide +kernel
theorem dX13_away_13 : decode cX13_away 13 = .ok (.iload_n 1, 1) := by decide +kernel
theorem dX13_away_14 : decode cX13_away 14 = .ok (.i2l, 1) := by decide +kernel
theorem dX13_away_15 : decode cX13_away 15 = .ok (.lconst 0, 1) := by decide +kernel
theorem dX13_away_16 : decode cX13_away 16 = .ok (.ldc2_w 399, 3) := by decide +kernel
theorem dX13_away_19 : decode cX13_away 19 = .ok (.invokestatic 231, 3) := by decide +kernel
theorem dX13_away_22 : decode cX13_away 22 = .ok (.ifCond .ne 5, 3) := by decide +kernel
theorem dX13_away_25 : decode cX13_away 25 = .ok (.iconst (-1), 1) := by decide +kernel
theorem dX13_away_26 : decode cX13_away 26 = .ok (.ireturn, 1) := by decide +kernel
theorem dX13_away_27 : decode cX13_away 27 = .ok (.aload_n 0, 1) := by decide +kernel
theorem dX13_away_28 : decode cX13_away 28 = .ok (.invokevirtual 410, 3) := by decide +kernel
theorem dX13_away_31 : decode cX13_away 31 = .ok (.istore_n 2, 1) := by decide +kernel
theorem dX13_away_32 : decode cX13_away 32 = .ok (.iconst 0, 1) := by decide +kernel
theorem dX13_away_33 : decode cX13_away 33 = .ok (.istore_n 3, 1) := by decide +kernel
theorem dX13_away_34 : decode cX13_away 34 = .ok (.iload_n 3, 1) := by decide +kernel
theorem dX13_away_35 : decode cX13_away 35 = .ok (.aload_n 0, 1) := by decide +kernel
theorem dX13_away_36 : decode cX13_away 36 = .ok (.getfield 46, 3) := by decide +kernel
theorem dX13_away_39 : decode cX13_away 39 = .ok (.aload_n 0, 1) := by decide +kernel
theorem dX13_away_40 : decode cX13_away 40 = .ok (.getfield 52, 3) := by decide +kernel
theorem dX13_away_43 : decode cX13_away 43 = .ok (.iaload, 1) := by decide +kernel
theorem dX13_away_44 : decode cX13_away 44 = .ok (.if_icmp .ge 32, 3) := by decide +kernel
theorem dX13_away_47 : decode cX13_away 47 = .ok (.aload_n 0, 1) := by decide +kernel
theorem dX13_away_48 : decode cX13_away 48 = .ok (.getfield 75, 3) := by decide +kernel
theorem dX13_away_51 : decode cX13_away 51 = .ok (.iload_n 3, 1) := by decide +kernel
theorem dX13_away_52 : decode cX13_away 52 = .ok (.iload_n 2, 1) := by decide +kernel
theorem dX13_away_53 : decode cX13_away 53 = .ok (.iload_n 3, 1) := by decide +kernel
theorem dX13_away_54 : decode cX13_away 54 = .ok (.invokestatic 224, 3) := by decide +kernel
theorem dX13_away_57 : decode cX13_away 57 = .ok (.ifCond .eq 11, 3) := by decide +kernel
theorem dX13_away_60 : decode cX13_away 60 = .ok (.aload_n 0, 1) := by decide +kernel
theorem dX13_away_61 : decode cX13_away 61 = .ok (.iload_n 3, 1) := by decide +kernel
theorem dX13_away_62 : decode cX13_away 62 = .ok (.invokevirtual 404, 3) := by decide +kernel
theorem dX13_away_65 : decode cX13_away 65 = .ok (.goto 4, 3) := by decide +kernel
theorem dX13_away_68 : decode cX13_away 68 = .ok (.iconst 0, 1) := by decide +kernel
theorem dX13_away_69 : decode cX13_away 69 = .ok (.iastore, 1) := by decide +kernel
theorem dX13_away_70 : decode cX13_away 70 = .ok (.iinc 3 1, 3) := by decide +kernel
theorem dX13_away_73 : decode cX13_away 73 = .ok (.goto (-39), 3) := by decide +kernel
theorem dX13_away_76 : decode cX13_away 76 = .ok (.iconst (-1), 1) := by decide +kernel
theorem dX13_away_77 : decode cX13_away 77 = .ok (.istore_n 3, 1) := by decide +kernel
theorem dX13_away_78 : decode cX13_away 78 = .ok (.iconst 0, 1) := by decide +kernel
theorem dX13_away_79 : decode cX13_away 79 = .ok (.istore 4, 2) := by decide +kernel
theorem dX13_away_81 : decode cX13_away 81 = .ok (.iload 4, 2) := by decide +kernel
theorem dX13_away_83 : decode cX13_away 83 = .ok (.iconst 1, 1) := by decide +kernel
theorem dX13_away_84 : decode cX13_away 84 = .ok (.aload_n 0, 1) := by decide +kernel
theorem dX13_away_85 : decode cX13_away 85 = .ok (.getfield 46, 3) := by decide +kernel
theorem dX13_away_88 : decode cX13_away 88 = .ok (.aload_n 0, 1) := by decide +kernel
theorem dX13_away_89 : decode cX13_away 89 = .ok (.getfield 52, 3) := by decide +kernel
theorem dX13_away_92 : decode cX13_away 92 = .ok (.iaload, 1) := by decide +kernel
theorem dX13_away_93 : decode cX13_away 93 = .ok (.ishl, 1) := by decide +kernel
theorem dX13_away_94 : decode cX13_away 94 = .ok (.if_icmp .ge 99, 3) := by decide +kernel
theorem dX13_away_97 : decode cX13_away 97 = .ok (.iload 4, 2) := by decide +kernel
theorem dX13_away_99 : decode cX13_away 99 = .ok (.iload_n 2, 1) := by decide +kernel
theorem dX13_away_100 : decode cX13_away 100 = .ok (.iconst (-1), 1) := by decide +kernel
theorem dX13_away_101 : decode cX13_away 101 = .ok (.ixor, 1) := by decide +kernel
theorem dX13_away_102 : decode cX13_away 102 = .ok (.iand, 1) := by decide +kernel
theorem dX13_away_103 : decode cX13_away 103 = .ok (.ifCond .ne 84, 3) := by decide +kernel
theorem dX13_away_106 : decode cX13_away 106 = .ok (.iload_n 3, 1) := by decide +kernel
theorem dX13_away_107 : decode cX13_away 107 = .ok (.iconst (-1), 1) := by decide +kernel
theorem dX13_away_108 : decode cX13_away 108 = .ok (.if_icmp .eq 18, 3) := by decide +kernel
theorem dX13_away_111 : decode cX13_away 111 = .ok (.iload 4, 2) := by decide +kernel
theorem dX13_away_113 : decode cX13_away 113 = .ok (.invokestatic 413, 3) := by decide +kernel
theorem dX13_away_116 : decode cX13_away 116 = .ok (.iload_n 3, 1) := by decide +kernel
theorem dX13_away_117 : decode cX13_away 117 = .ok (.invokestatic 413, 3) := by decide +kernel
theorem dX13_away_120 : decode cX13_away 120 = .ok (.if_icmp .lt 6, 3) := by decide +kernel
theorem dX13_away_123 : decode cX13_away 123 = .ok (.goto 64, 3) := by decide +kernel
theorem dX13_away_126 : decode cX13_away 126 = .ok (.iconst 0, 1) := by decide +kernel
theorem dX13_away_127 : decode cX13_away 127 = .ok (.istore 5, 2) := by decide +kernel
theorem dX13_away_129 : decode cX13_away 129 = .ok (.iconst 0, 1) := by decide +kernel
theorem dX13_away_130 : decode cX13_away 130 = .ok (.istore 6, 2) := by decide +kernel
theorem dX13_away_132 : decode cX13_away 132 = .ok (.iload 6, 2) := by decide +kernel
theorem dX13_away_134 : decode cX13_away 134 = .ok (.aload_n 0, 1) := by decide +kernel
theorem dX13_away_135 : decode cX13_away 135 = .ok (.getfield 46, 3) := by decide +kernel
theorem dX13_away_138 : decode cX13_away 138 = .ok (.aload_n 0, 1) := by decide +kernel
theorem dX13_away_139 : decode cX13_away 139 = .ok (.getfield 52, 3) := by decide +kernel
theorem dX13_away_142 : decode cX13_away 142 = .ok (.iaload, 1) := by decide +kernel
theorem dX13_away_143 : decode cX13_away 143 = .ok (.if_icmp .ge 35, 3) := by decide +kernel
theorem dX13_away_146 : decode cX13_away 146 = .ok (.iload 5, 2) := by decide +kernel
theorem dX13_away_148 : decode cX13_away 148 = .ok (.iload 4, 2) := by decide +kernel
theorem dX13_away_150 : decode cX13_away 150 = .ok (.iload 6, 2) := by decide +kernel
theorem dX13_away_152 : decode cX13_away 152 = .ok (.invokestatic 224, 3) := by decide +kernel
theorem dX13_away_155 : decode cX13_away 155 = .ok (.ifCond .eq 7, 3) := by decide +kernel
theorem dX13_away_158 : decode cX13_away 158 = .ok (.iconst 0, 1) := by decide +kernel
theorem dX13_away_159 : decode cX13_away 159 = .ok (.goto 10, 3) := by decide +kernel
theorem dX13_away_162 : decode cX13_away 162 = .ok (.aload_n 0, 1) := by decide +kernel
theorem dX13_away_163 : decode cX13_away 163 = .ok (.getfield 75, 3) := by decide +kernel
theorem dX13_away_166 : decode cX13_away 166 = .ok (.iload 6, 2) := by decide +kernel
theorem dX13_away_168 : decode cX13_away 168 = .ok (.iaload, 1) := by decide +kernel
theorem dX13_away_169 : decode cX13_away 169 = .ok (.iadd, 1) := by decide +kernel
theorem dX13_away_170 : decode cX13_away 170 = .ok (.istore 5, 2) := by decide +kernel
theorem dX13_away_172 : decode cX13_away 172 = .ok (.iinc 6 1, 3) := by decide +kernel
theorem dX13_away_175 : decode cX13_away 175 = .ok (.goto (-43), 3) := by decide +kernel
theorem dX13_away_178 : decode cX13_away 178 = .ok (.iload 5, 2) := by decide +kernel
theorem dX13_away_180 : decode cX13_away 180 = .ok (.iload_n 1, 1) := by decide +kernel
theorem dX13_away_181 : decode cX13_away 181 = .ok (.if_icmp .gt 6, 3) := by decide +kernel
theorem dX13_away_184 : decode cX13_away 184 = .ok (.iload 4, 2) := by decide +kernel
theorem dX13_away_186 : decode cX13_away 186 = .ok (.istore_n 3, 1) := by decide +kernel
theorem dX13_away_187 : decode cX13_away 187 = .ok (.iinc 4 1, 3) := by decide +kernel
theorem dX13_away_190 : decode cX13_away 190 = .ok (.goto (-109), 3) := by decide +kernel
theorem dX13_away_193 : decode cX13_away 193 = .ok (.iload_n 3, 1) := by decide +kernel
theorem dX13_away_194 : decode cX13_away 194 = .ok (.ireturn, 1) := by decide +kernel
theorem dX13_isVoter_0 : decode cX13_isVoter 0 = .ok (.aload_n 0, 1) := by decide +kernel
theorem dX13_isVoter_1 : decode cX13_isVoter 1 = .ok (.iload_n 1, 1) := by decide +kernel
theorem dX13_isVoter_2 : decode cX13_isVoter 2 = .ok (.invokevirtual 324, 3) := by decide +kernel
theorem dX13_isVoter_5 : decode cX13_isVoter 5 = .ok (.ifCond .eq 23, 3) := by decide +kernel
theorem dX13_isVoter_8 : decode cX13_isVoter 8 = .ok (.aload_n 0, 1) := by decide +kernel
theorem dX13_isVoter_9 : decode cX13_isVoter 9 = .ok (.iload_n 1, 1) := by decide +kernel
theorem dX13_isVoter_10 : decode cX13_isVoter 10 = .ok (.invokevirtual 367, 3) := by decide +kernel
theorem dX13_isVoter_13 : decode cX13_isVoter 13 = .ok (.ifCond .eq 11, 3) := by decide +kernel
theorem dX13_isVoter_16 : decode cX13_isVoter 16 = .ok (.aload_n 0, 1) := by decide +kernel
theorem dX13_isVoter_17 : decode cX13_isVoter 17 = .ok (.iconst 0, 1) := by decide +kernel
theorem dX13_isVoter_18 : decode cX13_isVoter 18 = .ok (.invokevirtual 396, 3) := by decide +kernel
theorem dX13_isVoter_21 : decode cX13_isVoter 21 = .ok (.ifCond .eq 7, 3) := by decide +kernel
theorem dX13_isVoter_24 : decode cX13_isVoter 24 = .ok (.iconst 1, 1) := by decide +kernel
theorem dX13_isVoter_25 : decode cX13_isVoter 25 = .ok (.goto 4, 3) := by decide +kernel
theorem dX13_isVoter_28 : decode cX13_isVoter 28 = .ok (.iconst 0, 1) := by decide +kernel
theorem dX13_isVoter_29 : decode cX13_isVoter 29 = .ok (.ireturn, 1) := by decide +kernel
theorem dX13_motionFor_0 : decode cX13_motionFor 0 = .ok (.iconst 0, 1) := by decide +kernel
theorem dX13_motionFor_1 : decode cX13_motionFor 1 = .ok (.istore_n 2, 1) := by decide +kernel
theorem dX13_motionFor_2 : decode cX13_motionFor 2 = .ok (.iconst 0, 1) := by decide +kernel
theorem dX13_motionFor_3 : decode cX13_motionFor 3 = .ok (.istore_n 3, 1) := by decide +kernel
theorem dX13_motionFor_4 : decode cX13_motionFor 4 = .ok (.iconst 0, 1) := by decide +kernel
theorem dX13_motionFor_5 : decode cX13_motionFor 5 = .ok (.istore 4, 2) := by decide +kernel
theorem dX13_motionFor_7 : decode cX13_motionFor 7 = .ok (.iload 4, 2) := by decide +kernel
theorem dX13_motionFor_9 : decode cX13_motionFor 9 = .ok (.aload_n 0, 1) := by decide +kernel
theorem dX13_motionFor_10 : decode cX13_motionFor 10 = .ok (.getfield 284, 3) := by decide +kernel
theorem dX13_motionFor_13 : decode cX13_motionFor 13 = .ok (.if_icmp .ge 42, 3) := by decide +kernel
theorem dX13_motionFor_16 : decode cX13_motionFor 16 = .ok (.aload_n 0, 1) := by decide +kernel
theorem dX13_motionFor_17 : decode cX13_motionFor 17 = .ok (.iload_n 1, 1) := by decide +kernel
theorem dX13_motionFor_18 : decode cX13_motionFor 18 = .ok (.invokevirtual 370, 3) := by decide +kernel
theorem dX13_motionFor_21 : decode cX13_motionFor 21 = .ok (.aload_n 0, 1) := by decide +kernel
theorem dX13_motionFor_22 : decode cX13_motionFor 22 = .ok (.iload 4, 2) := by decide +kernel
theorem dX13_motionFor_24 : decode cX13_motionFor 24 = .ok (.invokevirtual 350, 3) := by decide +kernel
theorem dX13_motionFor_27 : decode cX13_motionFor 27 = .ok (.istore 5, 2) := by decide +kernel
theorem dX13_motionFor_29 : decode cX13_motionFor 29 = .ok (.iload 4, 2) := by decide +kernel
theorem dX13_motionFor_31 : decode cX13_motionFor 31 = .ok (.ifCond .le 12, 3) := by decide +kernel
theorem dX13_motionFor_34 : decode cX13_motionFor 34 = .ok (.iload 5, 2) := by decide +kernel
theorem dX13_motionFor_36 : decode cX13_motionFor 36 = .ok (.iload_n 3, 1) := by decide +kernel
theorem dX13_motionFor_37 : decode cX13_motionFor 37 = .ok (.if_icmp .gt 6, 3) := by decide +kernel
theorem dX13_motionFor_40 : decode cX13_motionFor 40 = .ok (.goto 9, 3) := by decide +kernel
theorem dX13_motionFor_43 : decode cX13_motionFor 43 = .ok (.iload 4, 2) := by decide +kernel
theorem dX13_motionFor_45 : decode cX13_motionFor 45 = .ok (.istore_n 2, 1) := by decide +kernel
theorem dX13_motionFor_46 : decode cX13_motionFor 46 = .ok (.iload 5, 2) := by decide +kernel
theorem dX13_motionFor_48 : decode cX13_motionFor 48 = .ok (.istore_n 3, 1) := by decide +kernel
theorem dX13_motionFor_49 : decode cX13_motionFor 49 = .ok (.iinc 4 1, 3) := by decide +kernel
theorem dX13_motionFor_52 : decode cX13_motionFor 52 = .ok (.goto (-45), 3) := by decide +kernel
theorem dX13_motionFor_55 : decode cX13_motionFor 55 = .ok (.iload_n 2, 1) := by decide +kernel
theorem dX13_motionFor_56 : decode cX13_motionFor 56 = .ok (.ireturn, 1) := by decide +kernel
theorem dX13_elected_0 : decode cX13_elected 0 = .ok (.aload_n 0, 1) := by decide +kernel
theorem dX13_elected_1 : decode cX13_elected 1 = .ok (.iconst 0, 1) := by decide +kernel
theorem dX13_elected_2 : decode cX13_elected 2 = .ok (.putfield 102, 3) := by decide +kernel
theorem dX13_elected_5 : decode cX13_elected 5 = .ok (.aload_n 0, 1) := by decide +kernel
theorem dX13_elected_6 : decode cX13_elected 6 = .ok (.getfield 52, 3) := by decide +kernel
theorem dX13_elected_9 : decode cX13_elected 9 = .ok (.iconst (-1), 1) := by decide +kernel
theorem dX13_elected_10 : decode cX13_elected 10 = .ok (.if_icmp .eq 20, 3) := by decide +kernel
theorem dX13_elected_13 : decode cX13_elected 13 = .ok (.aload_n 0, 1) := by decide +kernel
theorem dX13_elected_14 : decode cX13_elected 14 = .ok (.getfield 284, 3) := by decide +kernel
theorem dX13_elected_17 : decode cX13_elected 17 = .ok (.ifCond .eq 13, 3) := by decide +kernel
theorem dX13_elected_20 : decode cX13_elected 20 = .ok (.iload_n 1, 1) := by decide +kernel
theorem dX13_elected_21 : decode cX13_elected 21 = .ok (.i2l, 1) := by decide +kernel
theorem dX13_elected_22 : decode cX13_elected 22 = .ok (.lconst 0, 1) := by decide +kernel
theorem dX13_elected_23 : decode cX13_elected 23 = .ok (.lconst 1, 1) := by decide +kernel
theorem dX13_elected_24 : decode cX13_elected 24 = .ok (.invokestatic 231, 3) := by decide +kernel
theorem dX13_elected_27 : decode cX13_elected 27 = .ok (.ifCond .ne 5, 3) := by decide +kernel
theorem dX13_elected_30 : decode cX13_elected 30 = .ok (.iconst (-1), 1) := by decide +kernel
theorem dX13_elected_31 : decode cX13_elected 31 = .ok (.ireturn, 1) := by decide +kernel
theorem dX13_elected_32 : decode cX13_elected 32 = .ok (.iconst (-1), 1) := by decide +kernel
theorem dX13_elected_33 : decode cX13_elected 33 = .ok (.istore_n 2, 1) := by decide +kernel
theorem dX13_elected_34 : decode cX13_elected 34 = .ok (.iconst 0, 1) := by decide +kernel
theorem dX13_elected_35 : decode cX13_elected 35 = .ok (.istore_n 3, 1) := by decide +kernel
theorem dX13_elected_36 : decode cX13_elected 36 = .ok (.iconst 0, 1) := by decide +kernel
theorem dX13_elected_37 : decode cX13_elected 37 = .ok (.istore 4, 2) := by decide +kernel
theorem dX13_elected_39 : decode cX13_elected 39 = .ok (.iload 4, 2) := by decide +kernel
theorem dX13_elected_41 : decode cX13_elected 41 = .ok (.aload_n 0, 1) := by decide +kernel
theorem dX13_elected_42 : decode cX13_elected 42 = .ok (.getfield 284, 3) := by decide +kernel
theorem dX13_elected_45 : decode cX13_elected 45 = .ok (.if_icmp .ge 80, 3) := by decide +kernel
theorem dX13_elected_48 : decode cX13_elected 48 = .ok (.iconst 0, 1) := by decide +kernel
theorem dX13_elected_49 : decode cX13_elected 49 = .ok (.istore 5, 2) := by decide +kernel
theorem dX13_elected_51 : decode cX13_elected 51 = .ok (.iconst 0, 1) := by decide +kernel
theorem dX13_elected_52 : decode cX13_elected 52 = .ok (.istore 6, 2) := by decide +kernel
theorem dX13_elected_54 : decode cX13_elected 54 = .ok (.iload 6, 2) := by decide +kernel
theorem dX13_elected_56 : decode cX13_elected 56 = .ok (.aload_n 0, 1) := by decide +kernel
theorem dX13_elected_57 : decode cX13_elected 57 = .ok (.getfield 46, 3) := by decide +kernel
theorem dX13_elected_60 : decode cX13_elected 60 = .ok (.aload_n 0, 1) := by decide +kernel
theorem dX13_elected_61 : decode cX13_elected 61 = .ok (.getfield 52, 3) := by decide +kernel
theorem dX13_elected_64 : decode cX13_elected 64 = .ok (.iaload, 1) := by decide +kernel
theorem dX13_elected_65 : decode cX13_elected 65 = .ok (.if_icmp .ge 39, 3) := by decide +kernel
theorem dX13_elected_68 : decode cX13_elected 68 = .ok (.iload 5, 2) := by decide +kernel
theorem dX13_elected_70 : decode cX13_elected 70 = .ok (.aload_n 0, 1) := by decide +kernel
theorem dX13_elected_71 : decode cX13_elected 71 = .ok (.iload 6, 2) := by decide +kernel
theorem dX13_elected_73 : decode cX13_elected 73 = .ok (.invokevirtual 418, 3) := by decide +kernel
theorem dX13_elected_76 : decode cX13_elected 76 = .ok (.ifCond .eq 18, 3) := by decide +kernel
theorem dX13_elected_79 : decode cX13_elected 79 = .ok (.aload_n 0, 1) := by decide +kernel
theorem dX13_elected_80 : decode cX13_elected 80 = .ok (.iload 6, 2) := by decide +kernel
theorem dX13_elected_82 : decode cX13_elected 82 = .ok (.invokevirtual 421, 3) := by decide +kernel
theorem dX13_elected_85 : decode cX13_elected 85 = .ok (.iload 4, 2) := by decide +kernel
theorem dX13_elected_87 : decode cX13_elected 87 = .ok (.if_icmp .ne 7, 3) := by decide +kernel
theorem dX13_elected_90 : decode cX13_elected 90 = .ok (.iconst 1, 1) := by decide +kernel
theorem dX13_elected_91 : decode cX13_elected 91 = .ok (.goto 4, 3) := by decide +kernel
theorem dX13_elected_94 : decode cX13_elected 94 = .ok (.iconst 0, 1) := by decide +kernel
theorem dX13_elected_95 : decode cX13_elected 95 = .ok (.iadd, 1) := by decide +kernel
theorem dX13_elected_96 : decode cX13_elected 96 = .ok (.istore 5, 2) := by decide +kernel
theorem dX13_elected_98 : decode cX13_elected 98 = .ok (.iinc 6 1, 3) := by decide +kernel
theorem dX13_elected_101 : decode cX13_elected 101 = .ok (.goto (-47), 3) := by decide +kernel
theorem dX13_elected_104 : decode cX13_elected 104 = .ok (.iload 5, 2) := by decide +kernel
theorem dX13_elected_106 : decode cX13_elected 106 = .ok (.iload_n 3, 1) := by decide +kernel
theorem dX13_elected_107 : decode cX13_elected 107 = .ok (.if_icmp .gt 6, 3) := by decide +kernel
theorem dX13_elected_110 : decode cX13_elected 110 = .ok (.goto 9, 3) := by decide +kernel
theorem dX13_elected_113 : decode cX13_elected 113 = .ok (.iload 4, 2) := by decide +kernel
theorem dX13_elected_115 : decode cX13_elected 115 = .ok (.istore_n 2, 1) := by decide +kernel
theorem dX13_elected_116 : decode cX13_elected 116 = .ok (.iload 5, 2) := by decide +kernel
theorem dX13_elected_118 : decode cX13_elected 118 = .ok (.istore_n 3, 1) := by decide +kernel
theorem dX13_elected_119 : decode cX13_elected 119 = .ok (.iinc 4 1, 3) := by decide +kernel
theorem dX13_elected_122 : decode cX13_elected 122 = .ok (.goto (-83), 3) := by decide +kernel
theorem dX13_elected_125 : decode cX13_elected 125 = .ok (.iload_n 2, 1) := by decide +kernel
theorem dX13_elected_126 : decode cX13_elected 126 = .ok (.iconst (-1), 1) := by decide +kernel
theorem dX13_elected_127 : decode cX13_elected 127 = .ok (.if_icmp .ne 7, 3) := by decide +kernel
theorem dX13_elected_130 : decode cX13_elected 130 = .ok (.iconst (-1), 1) := by decide +kernel
theorem dX13_elected_131 : decode cX13_elected 131 = .ok (.goto 12, 3) := by decide +kernel
theorem dX13_elected_134 : decode cX13_elected 134 = .ok (.iload_n 1, 1) := by decide +kernel
theorem dX13_elected_135 : decode cX13_elected 135 = .ok (.ifCond .ne 7, 3) := by decide +kernel
theorem dX13_elected_138 : decode cX13_elected 138 = .ok (.iload_n 2, 1) := by decide +kernel
theorem dX13_elected_139 : decode cX13_elected 139 = .ok (.goto 4, 3) := by decide +kernel
theorem dX13_elected_142 : decode cX13_elected 142 = .ok (.iload_n 3, 1) := by decide +kernel
theorem dX13_elected_143 : decode cX13_elected 143 = .ok (.ireturn, 1) := by decide +kernel
theorem dX13_duelOf_0 : decode cX13_duelOf 0 = .ok (.iconst 0, 1) := by decide +kernel
theorem dX13_duelOf_1 : decode cX13_duelOf 1 = .ok (.istore_n 3, 1) := by decide +kernel
theorem dX13_duelOf_2 : decode cX13_duelOf 2 = .ok (.iconst 0, 1) := by decide +kernel
theorem dX13_duelOf_3 : decode cX13_duelOf 3 = .ok (.istore 4, 2) := by decide +kernel
theorem dX13_duelOf_5 : decode cX13_duelOf 5 = .ok (.iload 4, 2) := by decide +kernel
theorem dX13_duelOf_7 : decode cX13_duelOf 7 = .ok (.aload_n 0, 1) := by decide +kernel
theorem dX13_duelOf_8 : decode cX13_duelOf 8 = .ok (.getfield 46, 3) := by decide +kernel
theorem dX13_duelOf_11 : decode cX13_duelOf 11 = .ok (.aload_n 0, 1) := by decide +kernel
theorem dX13_duelOf_12 : decode cX13_duelOf 12 = .ok (.getfield 52, 3) := by decide +kernel
theorem dX13_duelOf_15 : decode cX13_duelOf 15 = .ok (.iaload, 1) := by decide +kernel
theorem dX13_duelOf_16 : decode cX13_duelOf 16 = .ok (.if_icmp .ge 48, 3) := by decide +kernel
theorem dX13_duelOf_19 : decode cX13_duelOf 19 = .ok (.aload_n 0, 1) := by decide +kernel
theorem dX13_duelOf_20 : decode cX13_duelOf 20 = .ok (.iload 4, 2) := by decide +kernel
theorem dX13_duelOf_22 : decode cX13_duelOf 22 = .ok (.invokevirtual 418, 3) := by decide +kernel
theorem dX13_duelOf_25 : decode cX13_duelOf 25 = .ok (.ifCond .ne 6, 3) := by decide +kernel
theorem dX13_duelOf_28 : decode cX13_duelOf 28 = .ok (.goto 30, 3) := by decide +kernel
theorem dX13_duelOf_31 : decode cX13_duelOf 31 = .ok (.aload_n 0, 1) := by decide +kernel
theorem dX13_duelOf_32 : decode cX13_duelOf 32 = .ok (.iload 4, 2) := by decide +kernel
theorem dX13_duelOf_34 : decode cX13_duelOf 34 = .ok (.invokevirtual 370, 3) := by decide +kernel
theorem dX13_duelOf_37 : decode cX13_duelOf 37 = .ok (.aload_n 0, 1) := by decide +kernel
theorem dX13_duelOf_38 : decode cX13_duelOf 38 = .ok (.iload_n 1, 1) := by decide +kernel
theorem dX13_duelOf_39 : decode cX13_duelOf 39 = .ok (.invokevirtual 350, 3) := by decide +kernel
theorem dX13_duelOf_42 : decode cX13_duelOf 42 = .ok (.istore 5, 2) := by decide +kernel
theorem dX13_duelOf_44 : decode cX13_duelOf 44 = .ok (.iload_n 3, 1) := by decide +kernel
theorem dX13_duelOf_45 : decode cX13_duelOf 45 = .ok (.iload 5, 2) := by decide +kernel
theorem dX13_duelOf_47 : decode cX13_duelOf 47 = .ok (.aload_n 0, 1) := by decide +kernel
theorem dX13_duelOf_48 : decode cX13_duelOf 48 = .ok (.iload_n 2, 1) := by decide +kernel
theorem dX13_duelOf_49 : decode cX13_duelOf 49 = .ok (.invokevirtual 350, 3) := by decide +kernel
theorem dX13_duelOf_52 : decode cX13_duelOf 52 = .ok (.isub, 1) := by decide +kernel
theorem dX13_duelOf_53 : decode cX13_duelOf 53 = .ok (.invokestatic 424, 3) := by decide +kernel
theorem dX13_duelOf_56 : decode cX13_duelOf 56 = .ok (.iadd, 1) := by decide +kernel
theorem dX13_duelOf_57 : decode cX13_duelOf 57 = .ok (.istore_n 3, 1) := by decide +kernel
theorem dX13_duelOf_58 : decode cX13_duelOf 58 = .ok (.iinc 4 1, 3) := by decide +kernel
theorem dX13_duelOf_61 : decode cX13_duelOf 61 = .ok (.goto (-56), 3) := by decide +kernel
theorem dX13_duelOf_64 : decode cX13_duelOf 64 = .ok (.iload_n 3, 1) := by decide +kernel
theorem dX13_duelOf_65 : decode cX13_duelOf 65 = .ok (.ireturn, 1) := by decide +kernel
theorem dX13_isTaste_0 : decode cX13_isTaste 0 = .ok (.iload_n 1, 1) := by decide +kernel
theorem dX13_isTaste_1 : decode cX13_isTaste 1 = .ok (.i2l, 1) := by decide +kernel
theorem dX13_isTaste_2 : decode cX13_isTaste 2 = .ok (.lconst 0, 1) := by decide +kernel
theorem dX13_isTaste_3 : decode cX13_isTaste 3 = .ok (.aload_n 0, 1) := by decide +kernel
theorem dX13_isTaste_4 : decode cX13_isTaste 4 = .ok (.getfield 284, 3) := by decide +kernel
theorem dX13_isTaste_7 : decode cX13_isTaste 7 = .ok (.iconst 1, 1) := by decide +kernel
theorem dX13_isTaste_8 : decode cX13_isTaste 8 = .ok (.isub, 1) := by decide +kernel
theorem dX13_isTaste_9 : decode cX13_isTaste 9 = .ok (.i2l, 1) := by decide +kernel
theorem dX13_isTaste_10 : decode cX13_isTaste 10 = .ok (.invokestatic 231, 3) := by decide +kernel
theorem dX13_isTaste_13 : decode cX13_isTaste 13 = .ok (.ireturn, 1) := by decide +kernel
theorem dX13_duel_0 : decode cX13_duel 0 = .ok (.aload_n 0, 1) := by decide +kernel
theorem dX13_duel_1 : decode cX13_duel 1 = .ok (.iconst 0, 1) := by decide +kernel
theorem dX13_duel_2 : decode cX13_duel 2 = .ok (.putfield 102, 3) := by decide +kernel
theorem dX13_duel_5 : decode cX13_duel 5 = .ok (.aload_n 0, 1) := by decide +kernel
theorem dX13_duel_6 : decode cX13_duel 6 = .ok (.getfield 52, 3) := by decide +kernel
theorem dX13_duel_9 : decode cX13_duel 9 = .ok (.iconst (-1), 1) := by decide +kernel
theorem dX13_duel_10 : decode cX13_duel 10 = .ok (.if_icmp .eq 28, 3) := by decide +kernel
theorem dX13_duel_13 : decode cX13_duel 13 = .ok (.aload_n 0, 1) := by decide +kernel
theorem dX13_duel_14 : decode cX13_duel 14 = .ok (.iload_n 1, 1) := by decide +kernel
theorem dX13_duel_15 : decode cX13_duel 15 = .ok (.invokevirtual 427, 3) := by decide +kernel
theorem dX13_duel_18 : decode cX13_duel 18 = .ok (.ifCond .eq 20, 3) := by decide +kernel
theorem dX13_duel_21 : decode cX13_duel 21 = .ok (.aload_n 0, 1) := by decide +kernel
theorem dX13_duel_22 : decode cX13_duel 22 = .ok (.iload_n 2, 1) := by decide +kernel
theorem dX13_duel_23 : decode cX13_duel 23 = .ok (.invokevirtual 427, 3) := by decide +kernel
theorem dX13_duel_26 : decode cX13_duel 26 = .ok (.ifCond .eq 12, 3) := by decide +kernel
theorem dX13_duel_29 : decode cX13_duel 29 = .ok (.aload_n 0, 1) := by decide +kernel
theorem dX13_duel_30 : decode cX13_duel 30 = .ok (.iload_n 1, 1) := by decide +kernel
theorem dX13_duel_31 : decode cX13_duel 31 = .ok (.iload_n 2, 1) := by decide +kernel
theorem dX13_duel_32 : decode cX13_duel 32 = .ok (.invokevirtual 430, 3) := by decide +kernel
theorem dX13_duel_35 : decode cX13_duel 35 = .ok (.goto 6, 3) := by decide +kernel
theorem dX13_duel_38 : decode cX13_duel 38 = .ok (.ldc_w 376, 3) := by decide +kernel
theorem dX13_duel_41 : decode cX13_duel 41 = .ok (.ireturn, 1) := by decide +kernel
theorem dX13_beats_0 : decode cX13_beats 0 = .ok (.aload_n 0, 1) := by decide +kernel
theorem dX13_beats_1 : decode cX13_beats 1 = .ok (.iconst 0, 1) := by decide +kernel
theorem dX13_beats_2 : decode cX13_beats 2 = .ok (.putfield 102, 3) := by decide +kernel
theorem dX13_beats_5 : decode cX13_beats 5 = .ok (.aload_n 0, 1) := by decide +kernel
theorem dX13_beats_6 : decode cX13_beats 6 = .ok (.getfield 52, 3) := by decide +kernel
theorem dX13_beats_9 : decode cX13_beats 9 = .ok (.iconst (-1), 1) := by decide +kernel
theorem dX13_beats_10 : decode cX13_beats 10 = .ok (.if_icmp .eq 11, 3) := by decide +kernel
theorem dX13_beats_13 : decode cX13_beats 13 = .ok (.aload_n 0, 1) := by decide +kernel
theorem dX13_beats_14 : decode cX13_beats 14 = .ok (.getfield 284, 3) := by decide +kernel
theorem dX13_beats_17 : decode cX13_beats 17 = .ok (.iconst 2, 1) := by decide +kernel
theorem dX13_beats_18 : decode cX13_beats 18 = .ok (.if_icmp .ge 5, 3) := by decide +kernel
theorem dX13_beats_21 : decode cX13_beats 21 = .ok (.iconst (-1), 1) := by decide +kernel
theorem dX13_beats_22 : decode cX13_beats 22 = .ok (.ireturn, 1) := by decide +kernel
theorem dX13_beats_23 : decode cX13_beats 23 = .ok (.iconst 0, 1) := by decide +kernel
theorem dX13_beats_24 : decode cX13_beats 24 = .ok (.istore_n 1, 1) := by decide +kernel
theorem dX13_beats_25 : decode cX13_beats 25 = .ok (.iload_n 1, 1) := by decide +kernel
theorem dX13_beats_26 : decode cX13_beats 26 = .ok (.aload_n 0, 1) := by decide +kernel
theorem dX13_beats_27 : decode cX13_beats 27 = .ok (.getfield 284, 3) := by decide +kernel
theorem dX13_beats_30 : decode cX13_beats 30 = .ok (.if_icmp .ge 57, 3) := by decide +kernel
theorem dX13_beats_33 : decode cX13_beats 33 = .ok (.iconst 1, 1) := by decide +kernel
theorem dX13_beats_34 : decode cX13_beats 34 = .ok (.istore_n 2, 1) := by decide +kernel
theorem dX13_beats_35 : decode cX13_beats 35 = .ok (.iconst 0, 1) := by decide +kernel
theorem dX13_beats_36 : decode cX13_beats 36 = .ok (.istore_n 3, 1) := by decide +kernel
theorem dX13_beats_37 : decode cX13_beats 37 = .ok (.iload_n 3, 1) := by decide +kernel
theorem dX13_beats_38 : decode cX13_beats 38 = .ok (.aload_n 0, 1) := by decide +kernel
theorem dX13_beats_39 : decode cX13_beats 39 = .ok (.getfield 284, 3) := by decide +kernel
theorem dX13_beats_42 : decode cX13_beats 42 = .ok (.if_icmp .ge 33, 3) := by decide +kernel
theorem dX13_beats_45 : decode cX13_beats 45 = .ok (.iload_n 2, 1) := by decide +kernel
theorem dX13_beats_46 : decode cX13_beats 46 = .ok (.ifCond .eq 21, 3) := by decide +kernel
theorem dX13_beats_49 : decode cX13_beats 49 = .ok (.iload_n 3, 1) := by decide +kernel
theorem dX13_beats_50 : decode cX13_beats 50 = .ok (.iload_n 1, 1) := by decide +kernel
theorem dX13_beats_51 : decode cX13_beats 51 = .ok (.if_icmp .eq 12, 3) := by decide +kernel
theorem dX13_beats_54 : decode cX13_beats 54 = .ok (.aload_n 0, 1) := by decide +kernel
theorem dX13_beats_55 : decode cX13_beats 55 = .ok (.iload_n 1, 1) := by decide +kernel
theorem dX13_beats_56 : decode cX13_beats 56 = .ok (.iload_n 3, 1) := by decide +kernel
theorem dX13_beats_57 : decode cX13_beats 57 = .ok (.invokevirtual 430, 3) := by decide +kernel
theorem dX13_beats_60 : decode cX13_beats 60 = .ok (.ifCond .le 7, 3) := by decide +kernel
theorem dX13_beats_63 : decode cX13_beats 63 = .ok (.iconst 1, 1) := by decide +kernel
theorem dX13_beats_64 : decode cX13_beats 64 = .ok (.goto 4, 3) := by decide +kernel
theorem dX13_beats_67 : decode cX13_beats 67 = .ok (.iconst 0, 1) := by decide +kernel
theorem dX13_beats_68 : decode cX13_beats 68 = .ok (.istore_n 2, 1) := by decide +kernel
theorem dX13_beats_69 : decode cX13_beats 69 = .ok (.iinc 3 1, 3) := by decide +kernel
theorem dX13_beats_72 : decode cX13_beats 72 = .ok (.goto (-35), 3) := by decide +kernel
theorem dX13_beats_75 : decode cX13_beats 75 = .ok (.iload_n 2, 1) := by decide +kernel
theorem dX13_beats_76 : decode cX13_beats 76 = .ok (.ifCond .eq 5, 3) := by decide +kernel
theorem dX13_beats_79 : decode cX13_beats 79 = .ok (.iload_n 1, 1) := by decide +kernel
theorem dX13_beats_80 : decode cX13_beats 80 = .ok (.ireturn, 1) := by decide +kernel
theorem dX13_beats_81 : decode cX13_beats 81 = .ok (.iinc 1 1, 3) := by decide +kernel
theorem dX13_beats_84 : decode cX13_beats 84 = .ok (.goto (-59), 3) := by decide +kernel
theorem dX13_beats_87 : decode cX13_beats 87 = .ok (.iconst (-1), 1) := by decide +kernel
theorem dX13_beats_88 : decode cX13_beats 88 = .ok (.ireturn, 1) := by decide +kernel
theorem dX13_ring_0 : decode cX13_ring 0 = .ok (.aload_n 0, 1) := by decide +kernel
theorem dX13_ring_1 : decode cX13_ring 1 = .ok (.iconst 0, 1) := by decide +kernel
theorem dX13_ring_2 : decode cX13_ring 2 = .ok (.putfield 102, 3) := by decide +kernel
theorem dX13_ring_5 : decode cX13_ring 5 = .ok (.aload_n 0, 1) := by decide +kernel
theorem dX13_ring_6 : decode cX13_ring 6 = .ok (.getfield 52, 3) := by decide +kernel
theorem dX13_ring_9 : decode cX13_ring 9 = .ok (.iconst (-1), 1) := by decide +kernel
theorem dX13_ring_10 : decode cX13_ring 10 = .ok (.if_icmp .ne 5, 3) := by decide +kernel
theorem dX13_ring_13 : decode cX13_ring 13 = .ok (.iconst (-1), 1) := by decide +kernel
theorem dX13_ring_14 : decode cX13_ring 14 = .ok (.ireturn, 1) := by decide +kernel
theorem dX13_ring_15 : decode cX13_ring 15 = .ok (.iconst 0, 1) := by decide +kernel
theorem dX13_ring_16 : decode cX13_ring 16 = .ok (.istore_n 1, 1) := by decide +kernel
theorem dX13_ring_17 : decode cX13_ring 17 = .ok (.iload_n 1, 1) := by decide +kernel
theorem dX13_ring_18 : decode cX13_ring 18 = .ok (.aload_n 0, 1) := by decide +kernel
theorem dX13_ring_19 : decode cX13_ring 19 = .ok (.getfield 284, 3) := by decide +kernel
theorem dX13_ring_22 : decode cX13_ring 22 = .ok (.if_icmp .ge 98, 3) := by decide +kernel
theorem dX13_ring_25 : decode cX13_ring 25 = .ok (.iconst 0, 1) := by decide +kernel
theorem dX13_ring_26 : decode cX13_ring 26 = .ok (.istore_n 2, 1) := by decide +kernel
theorem dX13_ring_27 : decode cX13_ring 27 = .ok (.iload_n 2, 1) := by decide +kernel
theorem dX13_ring_28 : decode cX13_ring 28 = .ok (.aload_n 0, 1) := by decide +kernel
theorem dX13_ring_29 : decode cX13_ring 29 = .ok (.getfield 284, 3) := by decide +kernel
theorem dX13_ring_32 : decode cX13_ring 32 = .ok (.if_icmp .ge 82, 3) := by decide +kernel
theorem dX13_ring_35 : decode cX13_ring 35 = .ok (.iconst 0, 1) := by decide +kernel
theorem dX13_ring_36 : decode cX13_ring 36 = .ok (.istore_n 3, 1) := by decide +kernel
theorem dX13_ring_37 : decode cX13_ring 37 = .ok (.iload_n 3, 1) := by decide +kernel
theorem dX13_ring_38 : decode cX13_ring 38 = .ok (.aload_n 0, 1) := by decide +kernel
theorem dX13_ring_39 : decode cX13_ring 39 = .ok (.getfield 284, 3) := by decide +kernel
theorem dX13_ring_42 : decode cX13_ring 42 = .ok (.if_icmp .ge 66, 3) := by decide +kernel
theorem dX13_ring_45 : decode cX13_ring 45 = .ok (.iload_n 1, 1) := by decide +kernel
theorem dX13_ring_46 : decode cX13_ring 46 = .ok (.iload_n 2, 1) := by decide +kernel
theorem dX13_ring_47 : decode cX13_ring 47 = .ok (.if_icmp .eq 55, 3) := by decide +kernel
theorem dX13_ring_50 : decode cX13_ring 50 = .ok (.iload_n 2, 1) := by decide +kernel
theorem dX13_ring_51 : decode cX13_ring 51 = .ok (.iload_n 3, 1) := by decide +kernel
theorem dX13_ring_52 : decode cX13_ring 52 = .ok (.if_icmp .eq 50, 3) := by decide +kernel
theorem dX13_ring_55 : decode cX13_ring 55 = .ok (.iload_n 1, 1) := by decide +kernel
theorem dX13_ring_56 : decode cX13_ring 56 = .ok (.iload_n 3, 1) := by decide +kernel
theorem dX13_ring_57 : decode cX13_ring 57 = .ok (.if_icmp .eq 45, 3) := by decide +kernel
theorem dX13_ring_60 : decode cX13_ring 60 = .ok (.aload_n 0, 1) := by decide +kernel
theorem dX13_ring_61 : decode cX13_ring 61 = .ok (.iload_n 1, 1) := by decide +kernel
theorem dX13_ring_62 : decode cX13_ring 62 = .ok (.iload_n 2, 1) := by decide +kernel
theorem dX13_ring_63 : decode cX13_ring 63 = .ok (.invokevirtual 430, 3) := by decide +kernel
theorem dX13_ring_66 : decode cX13_ring 66 = .ok (.ifCond .le 36, 3) := by decide +kernel
theorem dX13_ring_69 : decode cX13_ring 69 = .ok (.aload_n 0, 1) := by decide +kernel
theorem dX13_ring_70 : decode cX13_ring 70 = .ok (.iload_n 2, 1) := by decide +kernel
theorem dX13_ring_71 : decode cX13_ring 71 = .ok (.iload_n 3, 1) := by decide +kernel
theorem dX13_ring_72 : decode cX13_ring 72 = .ok (.invokevirtual 430, 3) := by decide +kernel
theorem dX13_ring_75 : decode cX13_ring 75 = .ok (.ifCond .le 27, 3) := by decide +kernel
theorem dX13_ring_78 : decode cX13_ring 78 = .ok (.aload_n 0, 1) := by decide +kernel
theorem dX13_ring_79 : decode cX13_ring 79 = .ok (.iload_n 3, 1) := by decide +kernel
theorem dX13_ring_80 : decode cX13_ring 80 = .ok (.iload_n 1, 1) := by decide +kernel
theorem dX13_ring_81 : decode cX13_ring 81 = .ok (.invokevirtual 430, 3) := by decide +kernel
theorem dX13_ring_84 : decode cX13_ring 84 = .ok (.ifCond .gt 6, 3) := by decide +kernel
theorem dX13_ring_87 : decode cX13_ring 87 = .ok (.goto 15, 3) := by decide +kernel
theorem dX13_ring_90 : decode cX13_ring 90 = .ok (.bipush 100, 2) := by decide +kernel
theorem dX13_ring_92 : decode cX13_ring 92 = .ok (.iload_n 1, 1) := by decide +kernel
theorem dX13_ring_93 : decode cX13_ring 93 = .ok (.imul, 1) := by decide +kernel
theorem dX13_ring_94 : decode cX13_ring 94 = .ok (.bipush 10, 2) := by decide +kernel
theorem dX13_ring_96 : decode cX13_ring 96 = .ok (.iload_n 2, 1) := by decide +kernel
theorem dX13_ring_97 : decode cX13_ring 97 = .ok (.imul, 1) := by decide +kernel
theorem dX13_ring_98 : decode cX13_ring 98 = .ok (.iadd, 1) := by decide +kernel
theorem dX13_ring_99 : decode cX13_ring 99 = .ok (.iload_n 3, 1) := by decide +kernel
theorem dX13_ring_100 : decode cX13_ring 100 = .ok (.iadd, 1) := by decide +kernel
theorem dX13_ring_101 : decode cX13_ring 101 = .ok (.ireturn, 1) := by decide +kernel
theorem dX13_ring_102 : decode cX13_ring 102 = .ok (.iinc 3 1, 3) := by decide +kernel
theorem dX13_ring_105 : decode cX13_ring 105 = .ok (.goto (-68), 3) := by decide +kernel
theorem dX13_ring_108 : decode cX13_ring 108 = .ok (.iinc 2 1, 3) := by decide +kernel
theorem dX13_ring_111 : decode cX13_ring 111 = .ok (.goto (-84), 3) := by decide +kernel
theorem dX13_ring_114 : decode cX13_ring 114 = .ok (.iinc 1 1, 3) := by decide +kernel
theorem dX13_ring_117 : decode cX13_ring 117 = .ok (.goto (-100), 3) := by decide +kernel
theorem dX13_ring_120 : decode cX13_ring 120 = .ok (.iconst (-1), 1) := by decide +kernel
theorem dX13_ring_121 : decode cX13_ring 121 = .ok (.ireturn, 1) := by decide +kernel
theorem dX13_all_0 : decode cX13_all 0 = .ok (.aload_n 0, 1) := by decide +kernel
theorem dX13_all_1 : decode cX13_all 1 = .ok (.iconst 0, 1) := by decide +kernel
theorem dX13_all_2 : decode cX13_all 2 = .ok (.putfield 102, 3) := by decide +kernel
theorem dX13_all_5 : decode cX13_all 5 = .ok (.aload_n 0, 1) := by decide +kernel
theorem dX13_all_6 : decode cX13_all 6 = .ok (.getfield 52, 3) := by decide +kernel
theorem dX13_all_9 : decode cX13_all 9 = .ok (.iconst (-1), 1) := by decide +kernel
theorem dX13_all_10 : decode cX13_all 10 = .ok (.if_icmp .eq 22, 3) := by decide +kernel
theorem dX13_all_13 : decode cX13_all 13 = .ok (.iload_n 1, 1) := by decide +kernel
theorem dX13_all_14 : decode cX13_all 14 = .ok (.ifCond .lt 18, 3) := by decide +kernel
theorem dX13_all_17 : decode cX13_all 17 = .ok (.iload_n 1, 1) := by decide +kernel
theorem dX13_all_18 : decode cX13_all 18 = .ok (.iconst 1, 1) := by decide +kernel
theorem dX13_all_19 : decode cX13_all 19 = .ok (.aload_n 0, 1) := by decide +kernel
theorem dX13_all_20 : decode cX13_all 20 = .ok (.getfield 46, 3) := by decide +kernel
theorem dX13_all_23 : decode cX13_all 23 = .ok (.aload_n 0, 1) := by decide +kernel
theorem dX13_all_24 : decode cX13_all 24 = .ok (.getfield 52, 3) := by decide +kernel
theorem dX13_all_27 : decode cX13_all 27 = .ok (.iaload, 1) := by decide +kernel
theorem dX13_all_28 : decode cX13_all 28 = .ok (.ishl, 1) := by decide +kernel
theorem dX13_all_29 : decode cX13_all 29 = .ok (.if_icmp .lt 5, 3) := by decide +kernel
theorem dX13_all_32 : decode cX13_all 32 = .ok (.iconst (-1), 1) := by decide +kernel
theorem dX13_all_33 : decode cX13_all 33 = .ok (.ireturn, 1) := by decide +kernel
theorem dX13_all_34 : decode cX13_all 34 = .ok (.sipush 1023, 3) := by decide +kernel
theorem dX13_all_37 : decode cX13_all 37 = .ok (.istore_n 2, 1) := by decide +kernel
theorem dX13_all_38 : decode cX13_all 38 = .ok (.iconst 0, 1) := by decide +kernel
theorem dX13_all_39 : decode cX13_all 39 = .ok (.istore_n 3, 1) := by decide +kernel
theorem dX13_all_40 : decode cX13_all 40 = .ok (.iload_n 3, 1) := by decide +kernel
theorem dX13_all_41 : decode cX13_all 41 = .ok (.aload_n 0, 1) := by decide +kernel
theorem dX13_all_42 : decode cX13_all 42 = .ok (.getfield 46, 3) := by decide +kernel
theorem dX13_all_45 : decode cX13_all 45 = .ok (.aload_n 0, 1) := by decide +kernel
theorem dX13_all_46 : decode cX13_all 46 = .ok (.getfield 52, 3) := by decide +kernel
theorem dX13_all_49 : decode cX13_all 49 = .ok (.iaload, 1) := by decide +kernel
theorem dX13_all_50 : decode cX13_all 50 = .ok (.if_icmp .ge 29, 3) := by decide +kernel
theorem dX13_all_53 : decode cX13_all 53 = .ok (.iload_n 2, 1) := by decide +kernel
theorem dX13_all_54 : decode cX13_all 54 = .ok (.iload_n 1, 1) := by decide +kernel
theorem dX13_all_55 : decode cX13_all 55 = .ok (.iload_n 3, 1) := by decide +kernel
theorem dX13_all_56 : decode cX13_all 56 = .ok (.invokestatic 224, 3) := by decide +kernel
theorem dX13_all_59 : decode cX13_all 59 = .ok (.ifCond .eq 11, 3) := by decide +kernel
theorem dX13_all_62 : decode cX13_all 62 = .ok (.aload_n 0, 1) := by decide +kernel
theorem dX13_all_63 : decode cX13_all 63 = .ok (.iload_n 3, 1) := by decide +kernel
theorem dX13_all_64 : decode cX13_all 64 = .ok (.invokevirtual 321, 3) := by decide +kernel
theorem dX13_all_67 : decode cX13_all 67 = .ok (.goto 4, 3) := by decide +kernel
theorem dX13_all_70 : decode cX13_all 70 = .ok (.iconst (-1), 1) := by decide +kernel
theorem dX13_all_71 : decode cX13_all 71 = .ok (.iand, 1) := by decide +kernel
theorem dX13_all_72 : decode cX13_all 72 = .ok (.istore_n 2, 1) := by decide +kernel
theorem dX13_all_73 : decode cX13_all 73 = .ok (.iinc 3 1, 3) := by decide +kernel
theorem dX13_all_76 : decode cX13_all 76 = .ok (.goto (-36), 3) := by decide +kernel
theorem dX13_all_79 : decode cX13_all 79 = .ok (.iload_n 2, 1) := by decide +kernel
theorem dX13_all_80 : decode cX13_all 80 = .ok (.ireturn, 1) := by decide +kernel
theorem dX13_layFacts_0 : decode cX13_layFacts 0 = .ok (.iconst 0, 1) := by decide +kernel
theorem dX13_layFacts_1 : decode cX13_layFacts 1 = .ok (.istore_n 1, 1) := by decide +kernel
theorem dX13_layFacts_2 : decode cX13_layFacts 2 = .ok (.iload_n 1, 1) := by decide +kernel
theorem dX13_layFacts_3 : decode cX13_layFacts 3 = .ok (.aload_n 0, 1) := by decide +kernel
theorem dX13_layFacts_4 : decode cX13_layFacts 4 = .ok (.getfield 46, 3) := by decide +kernel
theorem dX13_layFacts_7 : decode cX13_layFacts 7 = .ok (.aload_n 0, 1) := by decide +kernel
theorem dX13_layFacts_8 : decode cX13_layFacts 8 = .ok (.getfield 52, 3) := by decide +kernel
theorem dX13_layFacts_11 : decode cX13_layFacts 11 = .ok (.iaload, 1) := by decide +kernel
theorem dX13_layFacts_12 : decode cX13_layFacts 12 = .ok (.if_icmp .ge 20, 3) := by decide +kernel
theorem dX13_layFacts_15 : decode cX13_layFacts 15 = .ok (.aload_n 0, 1) := by decide +kernel
theorem dX13_layFacts_16 : decode cX13_layFacts 16 = .ok (.getfield 78, 3) := by decide +kernel
theorem dX13_layFacts_19 : decode cX13_layFacts 19 = .ok (.iload_n 1, 1) := by decide +kernel
theorem dX13_layFacts_20 : decode cX13_layFacts 20 = .ok (.aload_n 0, 1) := by decide +kernel
theorem dX13_layFacts_21 : decode cX13_layFacts 21 = .ok (.iload_n 1, 1) := by decide +kernel
theorem dX13_layFacts_22 : decode cX13_layFacts 22 = .ok (.invokevirtual 321, 3) := by decide +kernel
theorem dX13_layFacts_25 : decode cX13_layFacts 25 = .ok (.iastore, 1) := by decide +kernel
theorem dX13_layFacts_26 : decode cX13_layFacts 26 = .ok (.iinc 1 1, 3) := by decide +kernel
theorem dX13_layFacts_29 : decode cX13_layFacts 29 = .ok (.goto (-27), 3) := by decide +kernel
theorem dX13_layFacts_32 : decode cX13_layFacts 32 = .ok (.return_, 1) := by decide +kernel
theorem dX13_telling_0 : decode cX13_telling 0 = .ok (.aload_n 0, 1) := by decide +kernel
theorem dX13_telling_1 : decode cX13_telling 1 = .ok (.iconst 0, 1) := by decide +kernel
theorem dX13_telling_2 : decode cX13_telling 2 = .ok (.putfield 102, 3) := by decide +kernel
theorem dX13_telling_5 : decode cX13_telling 5 = .ok (.aload_n 0, 1) := by decide +kernel
theorem dX13_telling_6 : decode cX13_telling 6 = .ok (.iload_n 1, 1) := by decide +kernel
theorem dX13_telling_7 : decode cX13_telling 7 = .ok (.invokevirtual 313, 3) := by decide +kernel
theorem dX13_telling_10 : decode cX13_telling 10 = .ok (.ifCond .eq 11, 3) := by decide +kernel
theorem dX13_telling_13 : decode cX13_telling 13 = .ok (.aload_n 0, 1) := by decide +kernel
theorem dX13_telling_14 : decode cX13_telling 14 = .ok (.iload_n 1, 1) := by decide +kernel
theorem dX13_telling_15 : decode cX13_telling 15 = .ok (.invokevirtual 324, 3) := by decide +kernel
theorem dX13_telling_18 : decode cX13_telling 18 = .ok (.ifCond .ne 5, 3) := by decide +kernel
theorem dX13_telling_21 : decode cX13_telling 21 = .ok (.iconst (-1), 1) := by decide +kernel
theorem dX13_telling_22 : decode cX13_telling 22 = .ok (.ireturn, 1) := by decide +kernel
theorem dX13_telling_23 : decode cX13_telling 23 = .ok (.aload_n 0, 1) := by decide +kernel
theorem dX13_telling_24 : decode cX13_telling 24 = .ok (.invokevirtual 433, 3) := by decide +kernel
theorem dX13_telling_27 : decode cX13_telling 27 = .ok (.aload_n 0, 1) := by decide +kernel
theorem dX13_telling_28 : decode cX13_telling 28 = .ok (.invokevirtual 410, 3) := by decide +kernel
theorem dX13_telling_31 : decode cX13_telling 31 = .ok (.istore_n 2, 1) := by decide +kernel
theorem dX13_telling_32 : decode cX13_telling 32 = .ok (.iconst (-1), 1) := by decide +kernel
theorem dX13_telling_33 : decode cX13_telling 33 = .ok (.istore_n 3, 1) := by decide +kernel
theorem dX13_telling_34 : decode cX13_telling 34 = .ok (.iconst 0, 1) := by decide +kernel
theorem dX13_telling_35 : decode cX13_telling 35 = .ok (.istore 4, 2) := by decide +kernel
theorem dX13_telling_37 : decode cX13_telling 37 = .ok (.iload 4, 2) := by decide +kernel
theorem dX13_telling_39 : decode cX13_telling 39 = .ok (.sipush 1024, 3) := by decide +kernel
theorem dX13_telling_42 : decode cX13_telling 42 = .ok (.if_icmp .ge 110, 3) := by decide +kernel
theorem dX13_telling_45 : decode cX13_telling 45 = .ok (.iload_n 3, 1) := by decide +kernel
theorem dX13_telling_46 : decode cX13_telling 46 = .ok (.iconst (-1), 1) := by decide +kernel
theorem dX13_telling_47 : decode cX13_telling 47 = .ok (.if_icmp .eq 18, 3) := by decide +kernel
theorem dX13_telling_50 : decode cX13_telling 50 = .ok (.iload 4, 2) := by decide +kernel
theorem dX13_telling_52 : decode cX13_telling 52 = .ok (.invokestatic 413, 3) := by decide +kernel
theorem dX13_telling_55 : decode cX13_telling 55 = .ok (.iload_n 3, 1) := by decide +kernel
theorem dX13_telling_56 : decode cX13_telling 56 = .ok (.invokestatic 413, 3) := by decide +kernel
theorem dX13_telling_59 : decode cX13_telling 59 = .ok (.if_icmp .lt 6, 3) := by decide +kernel
theorem dX13_telling_62 : decode cX13_telling 62 = .ok (.goto 84, 3) := by decide +kernel
theorem dX13_telling_65 : decode cX13_telling 65 = .ok (.iconst 1, 1) := by decide +kernel
theorem dX13_telling_66 : decode cX13_telling 66 = .ok (.istore 5, 2) := by decide +kernel
theorem dX13_telling_68 : decode cX13_telling 68 = .ok (.iconst 0, 1) := by decide +kernel
theorem dX13_telling_69 : decode cX13_telling 69 = .ok (.istore 6, 2) := by decide +kernel
theorem dX13_telling_71 : decode cX13_telling 71 = .ok (.iload 6, 2) := by decide +kernel
theorem dX13_telling_73 : decode cX13_telling 73 = .ok (.aload_n 0, 1) := by decide +kernel
theorem dX13_telling_74 : decode cX13_telling 74 = .ok (.getfield 46, 3) := by decide +kernel
theorem dX13_telling_77 : decode cX13_telling 77 = .ok (.aload_n 0, 1) := by decide +kernel
theorem dX13_telling_78 : decode cX13_telling 78 = .ok (.getfield 52, 3) := by decide +kernel
theorem dX13_telling_81 : decode cX13_telling 81 = .ok (.iaload, 1) := by decide +kernel
theorem dX13_telling_82 : decode cX13_telling 82 = .ok (.if_icmp .ge 56, 3) := by decide +kernel
theorem dX13_telling_85 : decode cX13_telling 85 = .ok (.iload 5, 2) := by decide +kernel
theorem dX13_telling_87 : decode cX13_telling 87 = .ok (.ifCond .eq 42, 3) := by decide +kernel
theorem dX13_telling_90 : decode cX13_telling 90 = .ok (.iload 6, 2) := by decide +kernel
theorem dX13_telling_92 : decode cX13_telling 92 = .ok (.iload_n 1, 1) := by decide +kernel
theorem dX13_telling_93 : decode cX13_telling 93 = .ok (.if_icmp .eq 32, 3) := by decide +kernel
theorem dX13_telling_96 : decode cX13_telling 96 = .ok (.iload_n 2, 1) := by decide +kernel
theorem dX13_telling_97 : decode cX13_telling 97 = .ok (.iload 6, 2) := by decide +kernel
theorem dX13_telling_99 : decode cX13_telling 99 = .ok (.invokestatic 224, 3) := by decide +kernel
theorem dX13_telling_102 : decode cX13_telling 102 = .ok (.ifCond .eq 23, 3) := by decide +kernel
theorem dX13_telling_105 : decode cX13_telling 105 = .ok (.aload_n 0, 1) := by decide +kernel
theorem dX13_telling_106 : decode cX13_telling 106 = .ok (.getfield 78, 3) := by decide +kernel
theorem dX13_telling_109 : decode cX13_telling 109 = .ok (.iload 6, 2) := by decide +kernel
theorem dX13_telling_111 : decode cX13_telling 111 = .ok (.iaload, 1) := by decide +kernel
theorem dX13_telling_112 : decode cX13_telling 112 = .ok (.aload_n 0, 1) := by decide +kernel
theorem dX13_telling_113 : decode cX13_telling 113 = .ok (.getfield 78, 3) := by decide +kernel
theorem dX13_telling_116 : decode cX13_telling 116 = .ok (.iload_n 1, 1) := by decide +kernel
theorem dX13_telling_117 : decode cX13_telling 117 = .ok (.iaload, 1) := by decide +kernel
theorem dX13_telling_118 : decode cX13_telling 118 = .ok (.ixor, 1) := by decide +kernel
theorem dX13_telling_119 : decode cX13_telling 119 = .ok (.iload 4, 2) := by decide +kernel
theorem dX13_telling_121 : decode cX13_telling 121 = .ok (.iand, 1) := by decide +kernel
theorem dX13_telling_122 : decode cX13_telling 122 = .ok (.ifCond .eq 7, 3) := by decide +kernel
theorem dX13_telling_125 : decode cX13_telling 125 = .ok (.iconst 1, 1) := by decide +kernel
theorem dX13_telling_126 : decode cX13_telling 126 = .ok (.goto 4, 3) := by decide +kernel
theorem dX13_telling_129 : decode cX13_telling 129 = .ok (.iconst 0, 1) := by decide +kernel
theorem dX13_telling_130 : decode cX13_telling 130 = .ok (.istore 5, 2) := by decide +kernel
theorem dX13_telling_132 : decode cX13_telling 132 = .ok (.iinc 6 1, 3) := by decide +kernel
theorem dX13_telling_135 : decode cX13_telling 135 = .ok (.goto (-64), 3) := by decide +kernel
theorem dX13_telling_138 : decode cX13_telling 138 = .ok (.iload 5, 2) := by decide +kernel
theorem dX13_telling_140 : decode cX13_telling 140 = .ok (.ifCond .eq 6, 3) := by decide +kernel
theorem dX13_telling_143 : decode cX13_telling 143 = .ok (.iload 4, 2) := by decide +kernel
theorem dX13_telling_145 : decode cX13_telling 145 = .ok (.istore_n 3, 1) := by decide +kernel
theorem dX13_telling_146 : decode cX13_telling 146 = .ok (.iinc 4 1, 3) := by decide +kernel
theorem dX13_telling_149 : decode cX13_telling 149 = .ok (.goto (-112), 3) := by decide +kernel
theorem dX13_telling_152 : decode cX13_telling 152 = .ok (.iload_n 3, 1) := by decide +kernel
theorem dX13_telling_153 : decode cX13_telling 153 = .ok (.ireturn, 1) := by decide +kernel
theorem dX13_twins_0 : decode cX13_twins 0 = .ok (.aload_n 0, 1) := by decide +kernel
theorem dX13_twins_1 : decode cX13_twins 1 = .ok (.iconst 0, 1) := by decide +kernel
theorem dX13_twins_2 : decode cX13_twins 2 = .ok (.putfield 102, 3) := by decide +kernel
theorem dX13_twins_5 : decode cX13_twins 5 = .ok (.aload_n 0, 1) := by decide +kernel
theorem dX13_twins_6 : decode cX13_twins 6 = .ok (.iload_n 1, 1) := by decide +kernel
theorem dX13_twins_7 : decode cX13_twins 7 = .ok (.invokevirtual 313, 3) := by decide +kernel
theorem dX13_twins_10 : decode cX13_twins 10 = .ok (.ifCond .ne 5, 3) := by decide +kernel
theorem dX13_twins_13 : decode cX13_twins 13 = .ok (.iconst (-1), 1) := by decide +kernel
theorem dX13_twins_14 : decode cX13_twins 14 = .ok (.ireturn, 1) := by decide +kernel
theorem dX13_twins_15 : decode cX13_twins 15 = .ok (.iconst 0, 1) := by decide +kernel
theorem dX13_twins_16 : decode cX13_twins 16 = .ok (.istore_n 2, 1) := by decide +kernel
theorem dX13_twins_17 : decode cX13_twins 17 = .ok (.iconst 0, 1) := by decide +kernel
theorem dX13_twins_18 : decode cX13_twins 18 = .ok (.istore_n 3, 1) := by decide +kernel
theorem dX13_twins_19 : decode cX13_twins 19 = .ok (.iload_n 3, 1) := by decide +kernel
theorem dX13_twins_20 : decode cX13_twins 20 = .ok (.aload_n 0, 1) := by decide +kernel
theorem dX13_twins_21 : decode cX13_twins 21 = .ok (.getfield 46, 3) := by decide +kernel
theorem dX13_twins_24 : decode cX13_twins 24 = .ok (.aload_n 0, 1) := by decide +kernel
theorem dX13_twins_25 : decode cX13_twins 25 = .ok (.getfield 52, 3) := by decide +kernel
theorem dX13_twins_28 : decode cX13_twins 28 = .ok (.iaload, 1) := by decide +kernel
theorem dX13_twins_29 : decode cX13_twins 29 = .ok (.if_icmp .ge 45, 3) := by decide +kernel
theorem dX13_twins_32 : decode cX13_twins 32 = .ok (.iload_n 2, 1) := by decide +kernel
theorem dX13_twins_33 : decode cX13_twins 33 = .ok (.iload_n 3, 1) := by decide +kernel
theorem dX13_twins_34 : decode cX13_twins 34 = .ok (.iload_n 1, 1) := by decide +kernel
theorem dX13_twins_35 : decode cX13_twins 35 = .ok (.if_icmp .eq 30, 3) := by decide +kernel
theorem dX13_twins_38 : decode cX13_twins 38 = .ok (.aload_n 0, 1) := by decide +kernel
theorem dX13_twins_39 : decode cX13_twins 39 = .ok (.iload_n 3, 1) := by decide +kernel
theorem dX13_twins_40 : decode cX13_twins 40 = .ok (.invokevirtual 324, 3) := by decide +kernel
theorem dX13_twins_43 : decode cX13_twins 43 = .ok (.ifCond .eq 22, 3) := by decide +kernel
theorem dX13_twins_46 : decode cX13_twins 46 = .ok (.aload_n 0, 1) := by decide +kernel
theorem dX13_twins_47 : decode cX13_twins 47 = .ok (.iload_n 3, 1) := by decide +kernel
theorem dX13_twins_48 : decode cX13_twins 48 = .ok (.invokevirtual 321, 3) := by decide +kernel
theorem dX13_twins_51 : decode cX13_twins 51 = .ok (.aload_n 0, 1) := by decide +kernel
theorem dX13_twins_52 : decode cX13_twins 52 = .ok (.iload_n 1, 1) := by decide +kernel
theorem dX13_twins_53 : decode cX13_twins 53 = .ok (.invokevirtual 321, 3) := by decide +kernel
theorem dX13_twins_56 : decode cX13_twins 56 = .ok (.if_icmp .ne 9, 3) := by decide +kernel
theorem dX13_twins_59 : decode cX13_twins 59 = .ok (.iconst 1, 1) := by decide +kernel
theorem dX13_twins_60 : decode cX13_twins 60 = .ok (.iload_n 3, 1) := by decide +kernel
theorem dX13_twins_61 : decode cX13_twins 61 = .ok (.ishl, 1) := by decide +kernel
theorem dX13_twins_62 : decode cX13_twins 62 = .ok (.goto 4, 3) := by decide +kernel
theorem dX13_twins_65 : decode cX13_twins 65 = .ok (.iconst 0, 1) := by decide +kernel
theorem dX13_twins_66 : decode cX13_twins 66 = .ok (.ior, 1) := by decide +kernel
theorem dX13_twins_67 : decode cX13_twins 67 = .ok (.istore_n 2, 1) := by decide +kernel
theorem dX13_twins_68 : decode cX13_twins 68 = .ok (.iinc 3 1, 3) := by decide +kernel
theorem dX13_twins_71 : decode cX13_twins 71 = .ok (.goto (-52), 3) := by decide +kernel
theorem dX13_twins_74 : decode cX13_twins 74 = .ok (.iload_n 2, 1) := by decide +kernel
theorem dX13_twins_75 : decode cX13_twins 75 = .ok (.ireturn, 1) := by decide +kernel
theorem dX13_sentence_0 : decode cX13_sentence 0 = .ok (.aload_n 0, 1) := by decide +kernel
theorem dX13_sentence_1 : decode cX13_sentence 1 = .ok (.iconst 0, 1) := by decide +kernel
theorem dX13_sentence_2 : decode cX13_sentence 2 = .ok (.putfield 102, 3) := by decide +kernel
theorem dX13_sentence_5 : decode cX13_sentence 5 = .ok (.aload_n 0, 1) := by decide +kernel
theorem dX13_sentence_6 : decode cX13_sentence 6 = .ok (.getfield 52, 3) := by decide +kernel
theorem dX13_sentence_9 : decode cX13_sentence 9 = .ok (.iconst (-1), 1) := by decide +kernel
theorem dX13_sentence_10 : decode cX13_sentence 10 = .ok (.if_icmp .ne 5, 3) := by decide +kernel
theorem dX13_sentence_13 : decode cX13_sentence 13 = .ok (.iconst (-1), 1) := by decide +kernel
theorem dX13_sentence_14 : decode cX13_sentence 14 = .ok (.ireturn, 1) := by decide +kernel
theorem dX13_sentence_15 : decode cX13_sentence 15 = .ok (.aload_n 0, 1) := by decide +kernel
theorem dX13_sentence_16 : decode cX13_sentence 16 = .ok (.invokevirtual 433, 3) := by decide +kernel
theorem dX13_sentence_19 : decode cX13_sentence 19 = .ok (.aload_n 0, 1) := by decide +kernel
theorem dX13_sentence_20 : decode cX13_sentence 20 = .ok (.invokevirtual 410, 3) := by decide +kernel
theorem dX13_sentence_23 : decode cX13_sentence 23 = .ok (.istore_n 1, 1) := by decide +kernel
theorem dX13_sentence_24 : decode cX13_sentence 24 = .ok (.iconst (-1), 1) := by decide +kernel
theorem dX13_sentence_25 : decode cX13_sentence 25 = .ok (.istore_n 2, 1) := by decide +kernel
theorem dX13_sentence_26 : decode cX13_sentence 26 = .ok (.iconst 0, 1) := by decide +kernel
theorem dX13_sentence_27 : decode cX13_sentence 27 = .ok (.istore_n 3, 1) := by decide +kernel
theorem dX13_sentence_28 : decode cX13_sentence 28 = .ok (.iload_n 3, 1) := by decide +kernel
theorem dX13_sentence_29 : decode cX13_sentence 29 = .ok (.sipush 1024, 3) := by decide +kernel
theorem dX13_sentence_32 : decode cX13_sentence 32 = .ok (.if_icmp .ge 94, 3) := by decide +kernel
theorem dX13_sentence_35 : decode cX13_sentence 35 = .ok (.iload_n 2, 1) := by decide +kernel
theorem dX13_sentence_36 : decode cX13_sentence 36 = .ok (.iconst (-1), 1) := by decide +kernel
theorem dX13_sentence_37 : decode cX13_sentence 37 = .ok (.if_icmp .eq 17, 3) := by decide +kernel
theorem dX13_sentence_40 : decode cX13_sentence 40 = .ok (.iload_n 3, 1) := by decide +kernel
theorem dX13_sentence_41 : decode cX13_sentence 41 = .ok (.invokestatic 413, 3) := by decide +kernel
theorem dX13_sentence_44 : decode cX13_sentence 44 = .ok (.iload_n 2, 1) := by decide +kernel
theorem dX13_sentence_45 : decode cX13_sentence 45 = .ok (.invokestatic 413, 3) := by decide +kernel
theorem dX13_sentence_48 : decode cX13_sentence 48 = .ok (.if_icmp .lt 6, 3) := by decide +kernel
theorem dX13_sentence_51 : decode cX13_sentence 51 = .ok (.goto 69, 3) := by decide +kernel
theorem dX13_sentence_54 : decode cX13_sentence 54 = .ok (.iconst 1, 1) := by decide +kernel
theorem dX13_sentence_55 : decode cX13_sentence 55 = .ok (.istore 4, 2) := by decide +kernel
theorem dX13_sentence_57 : decode cX13_sentence 57 = .ok (.iconst 0, 1) := by decide +kernel
theorem dX13_sentence_58 : decode cX13_sentence 58 = .ok (.istore 5, 2) := by decide +kernel
theorem dX13_sentence_60 : decode cX13_sentence 60 = .ok (.iload 5, 2) := by decide +kernel
theorem dX13_sentence_62 : decode cX13_sentence 62 = .ok (.aload_n 0, 1) := by decide +kernel
theorem dX13_sentence_63 : decode cX13_sentence 63 = .ok (.getfield 46, 3) := by decide +kernel
theorem dX13_sentence_66 : decode cX13_sentence 66 = .ok (.aload_n 0, 1) := by decide +kernel
theorem dX13_sentence_67 : decode cX13_sentence 67 = .ok (.getfield 52, 3) := by decide +kernel
theorem dX13_sentence_70 : decode cX13_sentence 70 = .ok (.iaload, 1) := by decide +kernel
theorem dX13_sentence_71 : decode cX13_sentence 71 = .ok (.if_icmp .ge 42, 3) := by decide +kernel
theorem dX13_sentence_74 : decode cX13_sentence 74 = .ok (.iload 4, 2) := by decide +kernel
theorem dX13_sentence_76 : decode cX13_sentence 76 = .ok (.ifCond .eq 28, 3) := by decide +kernel
theorem dX13_sentence_79 : decode cX13_sentence 79 = .ok (.iload_n 1, 1) := by decide +kernel
theorem dX13_sentence_80 : decode cX13_sentence 80 = .ok (.iload 5, 2) := by decide +kernel
theorem dX13_sentence_82 : decode cX13_sentence 82 = .ok (.invokestatic 224, 3) := by decide +kernel
theorem dX13_sentence_85 : decode cX13_sentence 85 = .ok (.ifCond .eq 15, 3) := by decide +kernel
theorem dX13_sentence_88 : decode cX13_sentence 88 = .ok (.aload_n 0, 1) := by decide +kernel
theorem dX13_sentence_89 : decode cX13_sentence 89 = .ok (.getfield 78, 3) := by decide +kernel
theorem dX13_sentence_92 : decode cX13_sentence 92 = .ok (.iload 5, 2) := by decide +kernel
theorem dX13_sentence_94 : decode cX13_sentence 94 = .ok (.iaload, 1) := by decide +kernel
theorem dX13_sentence_95 : decode cX13_sentence 95 = .ok (.iload_n 3, 1) := by decide +kernel
theorem dX13_sentence_96 : decode cX13_sentence 96 = .ok (.iand, 1) := by decide +kernel
theorem dX13_sentence_97 : decode cX13_sentence 97 = .ok (.ifCond .eq 7, 3) := by decide +kernel
theorem dX13_sentence_100 : decode cX13_sentence 100 = .ok (.iconst 1, 1) := by decide +kernel
theorem dX13_sentence_101 : decode cX13_sentence 101 = .ok (.goto 4, 3) := by decide +kernel
theorem dX13_sentence_104 : decode cX13_sentence 104 = .ok (.iconst 0, 1) := by decide +kernel
theorem dX13_sentence_105 : decode cX13_sentence 105 = .ok (.istore 4, 2) := by decide +kernel
theorem dX13_sentence_107 : decode cX13_sentence 107 = .ok (.iinc 5 1, 3) := by decide +kernel
theorem dX13_sentence_110 : decode cX13_sentence 110 = .ok (.goto (-50), 3) := by decide +kernel
theorem dX13_sentence_113 : decode cX13_sentence 113 = .ok (.iload 4, 2) := by decide +kernel
theorem dX13_sentence_115 : decode cX13_sentence 115 = .ok (.ifCond .eq 5, 3) := by decide +kernel
theorem dX13_sentence_118 : decode cX13_sentence 118 = .ok (.iload_n 3, 1) := by decide +kernel
theorem dX13_sentence_119 : decode cX13_sentence 119 = .ok (.istore_n 2, 1) := by decide +kernel
theorem dX13_sentence_120 : decode cX13_sentence 120 = .ok (.iinc 3 1, 3) := by decide +kernel
theorem dX13_sentence_123 : decode cX13_sentence 123 = .ok (.goto (-95), 3) := by decide +kernel
theorem dX13_sentence_126 : decode cX13_sentence 126 = .ok (.iload_n 2, 1) := by decide +kernel
theorem dX13_sentence_127 : decode cX13_sentence 127 = .ok (.ireturn, 1) := by decide +kernel
theorem dX13_leads_0 : decode cX13_leads 0 = .ok (.aload_n 0, 1) := by decide +kernel
theorem dX13_leads_1 : decode cX13_leads 1 = .ok (.iconst 0, 1) := by decide +kernel
theorem dX13_leads_2 : decode cX13_leads 2 = .ok (.putfield 102, 3) := by decide +kernel
theorem dX13_leads_5 : decode cX13_leads 5 = .ok (.aload_n 0, 1) := by decide +kernel
theorem dX13_leads_6 : decode cX13_leads 6 = .ok (.getfield 52, 3) := by decide +kernel
theorem dX13_leads_9 : decode cX13_leads 9 = .ok (.iconst (-1), 1) := by decide +kernel
theorem dX13_leads_10 : decode cX13_leads 10 = .ok (.if_icmp .eq 27, 3) := by decide +kernel
theorem dX13_leads_13 : decode cX13_leads 13 = .ok (.iload_n 1, 1) := by decide +kernel
theorem dX13_leads_14 : decode cX13_leads 14 = .ok (.i2l, 1) := by decide +kernel
theorem dX13_leads_15 : decode cX13_leads 15 = .ok (.lconst 0, 1) := by decide +kernel
theorem dX13_leads_16 : decode cX13_leads 16 = .ok (.ldc2_w 436, 3) := by decide +kernel
theorem dX13_leads_19 : decode cX13_leads 19 = .ok (.invokestatic 231, 3) := by decide +kernel
theorem dX13_leads_22 : decode cX13_leads 22 = .ok (.ifCond .eq 15, 3) := by decide +kernel
theorem dX13_leads_25 : decode cX13_leads 25 = .ok (.iload_n 2, 1) := by decide +kernel
theorem dX13_leads_26 : decode cX13_leads 26 = .ok (.i2l, 1) := by decide +kernel
theorem dX13_leads_27 : decode cX13_leads 27 = .ok (.lconst 0, 1) := by decide +kernel
theorem dX13_leads_28 : decode cX13_leads 28 = .ok (.ldc2_w 436, 3) := by decide +kernel
theorem dX13_leads_31 : decode cX13_leads 31 = .ok (.invokestatic 231, 3) := by decide +kernel
theorem dX13_leads_34 : decode cX13_leads 34 = .ok (.ifCond .ne 5, 3) := by decide +kernel
theorem dX13_leads_37 : decode cX13_leads 37 = .ok (.iconst (-1), 1) := by decide +kernel
theorem dX13_leads_38 : decode cX13_leads 38 = .ok (.ireturn, 1) := by decide +kernel
theorem dX13_leads_39 : decode cX13_leads 39 = .ok (.iconst 0, 1) := by decide +kernel
theorem dX13_leads_40 : decode cX13_leads 40 = .ok (.istore_n 3, 1) := by decide +kernel
theorem dX13_leads_41 : decode cX13_leads 41 = .ok (.iload_n 3, 1) := by decide +kernel
theorem dX13_leads_42 : decode cX13_leads 42 = .ok (.aload_n 0, 1) := by decide +kernel
theorem dX13_leads_43 : decode cX13_leads 43 = .ok (.getfield 46, 3) := by decide +kernel
theorem dX13_leads_46 : decode cX13_leads 46 = .ok (.aload_n 0, 1) := by decide +kernel
theorem dX13_leads_47 : decode cX13_leads 47 = .ok (.getfield 52, 3) := by decide +kernel
theorem dX13_leads_50 : decode cX13_leads 50 = .ok (.iaload, 1) := by decide +kernel
theorem dX13_leads_51 : decode cX13_leads 51 = .ok (.if_icmp .ge 43, 3) := by decide +kernel
theorem dX13_leads_54 : decode cX13_leads 54 = .ok (.aload_n 0, 1) := by decide +kernel
theorem dX13_leads_55 : decode cX13_leads 55 = .ok (.iload_n 3, 1) := by decide +kernel
theorem dX13_leads_56 : decode cX13_leads 56 = .ok (.invokevirtual 324, 3) := by decide +kernel
theorem dX13_leads_59 : decode cX13_leads 59 = .ok (.ifCond .eq 29, 3) := by decide +kernel
theorem dX13_leads_62 : decode cX13_leads 62 = .ok (.aload_n 0, 1) := by decide +kernel
theorem dX13_leads_63 : decode cX13_leads 63 = .ok (.iload_n 3, 1) := by decide +kernel
theorem dX13_leads_64 : decode cX13_leads 64 = .ok (.invokevirtual 321, 3) := by decide +kernel
theorem dX13_leads_67 : decode cX13_leads 67 = .ok (.iload_n 1, 1) := by decide +kernel
theorem dX13_leads_68 : decode cX13_leads 68 = .ok (.invokestatic 224, 3) := by decide +kernel
theorem dX13_leads_71 : decode cX13_leads 71 = .ok (.ifCond .eq 17, 3) := by decide +kernel
theorem dX13_leads_74 : decode cX13_leads 74 = .ok (.aload_n 0, 1) := by decide +kernel
theorem dX13_leads_75 : decode cX13_leads 75 = .ok (.iload_n 3, 1) := by decide +kernel
theorem dX13_leads_76 : decode cX13_leads 76 = .ok (.invokevirtual 321, 3) := by decide +kernel
theorem dX13_leads_79 : decode cX13_leads 79 = .ok (.iload_n 2, 1) := by decide +kernel
theorem dX13_leads_80 : decode cX13_leads 80 = .ok (.invokestatic 224, 3) := by decide +kernel
theorem dX13_leads_83 : decode cX13_leads 83 = .ok (.ifCond .ne 5, 3) := by decide +kernel
theorem dX13_leads_86 : decode cX13_leads 86 = .ok (.iconst 0, 1) := by decide +kernel
theorem dX13_leads_87 : decode cX13_leads 87 = .ok (.ireturn, 1) := by decide +kernel
theorem dX13_leads_88 : decode cX13_leads 88 = .ok (.iinc 3 1, 3) := by decide +kernel
theorem dX13_leads_91 : decode cX13_leads 91 = .ok (.goto (-50), 3) := by decide +kernel
theorem dX13_leads_94 : decode cX13_leads 94 = .ok (.iconst 1, 1) := by decide +kernel
theorem dX13_leads_95 : decode cX13_leads 95 = .ok (.ireturn, 1) := by decide +kernel
theorem dX13_clue_0 : decode cX13_clue 0 = .ok (.aload_n 0, 1) := by decide +kernel
theorem dX13_clue_1 : decode cX13_clue 1 = .ok (.iconst 0, 1) := by decide +kernel
theorem dX13_clue_2 : decode cX13_clue 2 = .ok (.putfield 102, 3) := by decide +kernel
theorem dX13_clue_5 : decode cX13_clue 5 = .ok (.aload_n 0, 1) := by decide +kernel
theorem dX13_clue_6 : decode cX13_clue 6 = .ok (.getfield 52, 3) := by decide +kernel
theorem dX13_clue_9 : decode cX13_clue 9 = .ok (.iconst (-1), 1) := by decide +kernel
theorem dX13_clue_10 : decode cX13_clue 10 = .ok (.if_icmp .eq 48, 3) := by decide +kernel
theorem dX13_clue_13 : decode cX13_clue 13 = .ok (.iload_n 1, 1) := by decide +kernel
theorem dX13_clue_14 : decode cX13_clue 14 = .ok (.i2l, 1) := by decide +kernel
theorem dX13_clue_15 : decode cX13_clue 15 = .ok (.lconst 0, 1) := by decide +kernel
theorem dX13_clue_16 : decode cX13_clue 16 = .ok (.ldc2_w 327, 3) := by decide +kernel
theorem dX13_clue_19 : decode cX13_clue 19 = .ok (.invokestatic 231, 3) := by decide +kernel
theorem dX13_clue_22 : decode cX13_clue 22 = .ok (.ifCond .eq 36, 3) := by decide +kernel
theorem dX13_clue_25 : decode cX13_clue 25 = .ok (.iload_n 2, 1) := by decide +kernel
theorem dX13_clue_26 : decode cX13_clue 26 = .ok (.i2l, 1) := by decide +kernel
theorem dX13_clue_27 : decode cX13_clue 27 = .ok (.lconst 0, 1) := by decide +kernel
theorem dX13_clue_28 : decode cX13_clue 28 = .ok (.ldc2_w 438, 3) := by decide +kernel
theorem dX13_clue_31 : decode cX13_clue 31 = .ok (.invokestatic 231, 3) := by decide +kernel
theorem dX13_clue_34 : decode cX13_clue 34 = .ok (.ifCond .eq 24, 3) := by decide +kernel
theorem dX13_clue_37 : decode cX13_clue 37 = .ok (.iload_n 3, 1) := by decide +kernel
theorem dX13_clue_38 : decode cX13_clue 38 = .ok (.i2l, 1) := by decide +kernel
theorem dX13_clue_39 : decode cX13_clue 39 = .ok (.lconst 0, 1) := by decide +kernel
theorem dX13_clue_40 : decode cX13_clue 40 = .ok (.ldc2_w 438, 3) := by decide +kernel
theorem dX13_clue_43 : decode cX13_clue 43 = .ok (.invokestatic 231, 3) := by decide +kernel
theorem dX13_clue_46 : decode cX13_clue 46 = .ok (.ifCond .eq 12, 3) := by decide +kernel
theorem dX13_clue_49 : decode cX13_clue 49 = .ok (.aload_n 0, 1) := by decide +kernel
theorem dX13_clue_50 : decode cX13_clue 50 = .ok (.getfield 295, 3) := by decide +kernel
theorem dX13_clue_53 : decode cX13_clue 53 = .ok (.bipush 12, 2) := by decide +kernel
theorem dX13_clue_55 : decode cX13_clue 55 = .ok (.if_icmp .ne 5, 3) := by decide +kernel
theorem dX13_clue_58 : decode cX13_clue 58 = .ok (.iconst (-1), 1) := by decide +kernel
theorem dX13_clue_59 : decode cX13_clue 59 = .ok (.ireturn, 1) := by decide +kernel
theorem dX13_clue_60 : decode cX13_clue 60 = .ok (.aload_n 0, 1) := by decide +kernel
theorem dX13_clue_61 : decode cX13_clue 61 = .ok (.getfield 81, 3) := by decide +kernel
theorem dX13_clue_64 : decode cX13_clue 64 = .ok (.aload_n 0, 1) := by decide +kernel
theorem dX13_clue_65 : decode cX13_clue 65 = .ok (.getfield 295, 3) := by decide +kernel
theorem dX13_clue_68 : decode cX13_clue 68 = .ok (.iload_n 1, 1) := by decide +kernel
theorem dX13_clue_69 : decode cX13_clue 69 = .ok (.iastore, 1) := by decide +kernel
theorem dX13_clue_70 : decode cX13_clue 70 = .ok (.aload_n 0, 1) := by decide +kernel
theorem dX13_clue_71 : decode cX13_clue 71 = .ok (.getfield 84, 3) := by decide +kernel
theorem dX13_clue_74 : decode cX13_clue 74 = .ok (.aload_n 0, 1) := by decide +kernel
theorem dX13_clue_75 : decode cX13_clue 75 = .ok (.getfield 295, 3) := by decide +kernel
theorem dX13_clue_78 : decode cX13_clue 78 = .ok (.iload_n 2, 1) := by decide +kernel
theorem dX13_clue_79 : decode cX13_clue 79 = .ok (.iastore, 1) := by decide +kernel
theorem dX13_clue_80 : decode cX13_clue 80 = .ok (.aload_n 0, 1) := by decide +kernel
theorem dX13_clue_81 : decode cX13_clue 81 = .ok (.getfield 87, 3) := by decide +kernel
theorem dX13_clue_84 : decode cX13_clue 84 = .ok (.aload_n 0, 1) := by decide +kernel
theorem dX13_clue_85 : decode cX13_clue 85 = .ok (.getfield 295, 3) := by decide +kernel
theorem dX13_clue_88 : decode cX13_clue 88 = .ok (.iload_n 3, 1) := by decide +kernel
theorem dX13_clue_89 : decode cX13_clue 89 = .ok (.iastore, 1) := by decide +kernel
theorem dX13_clue_90 : decode cX13_clue 90 = .ok (.aload_n 0, 1) := by decide +kernel
theorem dX13_clue_91 : decode cX13_clue 91 = .ok (.dup, 1) := by decide +kernel
theorem dX13_clue_92 : decode cX13_clue 92 = .ok (.getfield 295, 3) := by decide +kernel
theorem dX13_clue_95 : decode cX13_clue 95 = .ok (.iconst 1, 1) := by decide +kernel
theorem dX13_clue_96 : decode cX13_clue 96 = .ok (.iadd, 1) := by decide +kernel
theorem dX13_clue_97 : decode cX13_clue 97 = .ok (.putfield 295, 3) := by decide +kernel
theorem dX13_clue_100 : decode cX13_clue 100 = .ok (.aload_n 0, 1) := by decide +kernel
theorem dX13_clue_101 : decode cX13_clue 101 = .ok (.getfield 295, 3) := by decide +kernel
theorem dX13_clue_104 : decode cX13_clue 104 = .ok (.ireturn, 1) := by decide +kernel
theorem dX13_isSo_0 : decode cX13_isSo 0 = .ok (.aload_n 0, 1) := by decide +kernel
theorem dX13_isSo_1 : decode cX13_isSo 1 = .ok (.getfield 84, 3) := by decide +kernel
theorem dX13_isSo_4 : decode cX13_isSo 4 = .ok (.iload_n 2, 1) := by decide +kernel
theorem dX13_isSo_5 : decode cX13_isSo 5 = .ok (.iaload, 1) := by decide +kernel
theorem dX13_isSo_6 : decode cX13_isSo 6 = .ok (.istore_n 3, 1) := by decide +kernel
theorem dX13_isSo_7 : decode cX13_isSo 7 = .ok (.aload_n 0, 1) := by decide +kernel
theorem dX13_isSo_8 : decode cX13_isSo 8 = .ok (.getfield 81, 3) := by decide +kernel
theorem dX13_isSo_11 : decode cX13_isSo 11 = .ok (.iload_n 2, 1) := by decide +kernel
theorem dX13_isSo_12 : decode cX13_isSo 12 = .ok (.iaload, 1) := by decide +kernel
theorem dX13_isSo_13 : decode cX13_isSo 13 = .ok (.tableswitch 141 0 4 #[35, 59, 83, 99, 115], 35) := by decide +kernel
theorem dX13_isSo_48 : decode cX13_isSo 48 = .ok (.iload_n 3, 1) := by decide +kernel
theorem dX13_isSo_49 : decode cX13_isSo 49 = .ok (.bipush 10, 2) := by decide +kernel
theorem dX13_isSo_51 : decode cX13_isSo 51 = .ok (.if_icmp .ge 19, 3) := by decide +kernel
theorem dX13_isSo_54 : decode cX13_isSo 54 = .ok (.aload_n 0, 1) := by decide +kernel
theorem dX13_isSo_55 : decode cX13_isSo 55 = .ok (.iload_n 1, 1) := by decide +kernel
theorem dX13_isSo_56 : decode cX13_isSo 56 = .ok (.invokevirtual 321, 3) := by decide +kernel
theorem dX13_isSo_59 : decode cX13_isSo 59 = .ok (.iload_n 3, 1) := by decide +kernel
theorem dX13_isSo_60 : decode cX13_isSo 60 = .ok (.invokestatic 224, 3) := by decide +kernel
theorem dX13_isSo_63 : decode cX13_isSo 63 = .ok (.ifCond .eq 7, 3) := by decide +kernel
theorem dX13_isSo_66 : decode cX13_isSo 66 = .ok (.iconst 1, 1) := by decide +kernel
theorem dX13_isSo_67 : decode cX13_isSo 67 = .ok (.goto 4, 3) := by decide +kernel
theorem dX13_isSo_70 : decode cX13_isSo 70 = .ok (.iconst 0, 1) := by decide +kernel
theorem dX13_isSo_71 : decode cX13_isSo 71 = .ok (.ireturn, 1) := by decide +kernel
theorem dX13_isSo_72 : decode cX13_isSo 72 = .ok (.iload_n 3, 1) := by decide +kernel
theorem dX13_isSo_73 : decode cX13_isSo 73 = .ok (.bipush 10, 2) := by decide +kernel
theorem dX13_isSo_75 : decode cX13_isSo 75 = .ok (.if_icmp .ge 15, 3) := by decide +kernel
theorem dX13_isSo_78 : decode cX13_isSo 78 = .ok (.aload_n 0, 1) := by decide +kernel
theorem dX13_isSo_79 : decode cX13_isSo 79 = .ok (.iload_n 1, 1) := by decide +kernel
theorem dX13_isSo_80 : decode cX13_isSo 80 = .ok (.invokevirtual 321, 3) := by decide +kernel
theorem dX13_isSo_83 : decode cX13_isSo 83 = .ok (.iload_n 3, 1) := by decide +kernel
theorem dX13_isSo_84 : decode cX13_isSo 84 = .ok (.invokestatic 224, 3) := by decide +kernel
theorem dX13_isSo_87 : decode cX13_isSo 87 = .ok (.ifCond .ne 7, 3) := by decide +kernel
theorem dX13_isSo_90 : decode cX13_isSo 90 = .ok (.iconst 1, 1) := by decide +kernel
theorem dX13_isSo_91 : decode cX13_isSo 91 = .ok (.goto 4, 3) := by decide +kernel
theorem dX13_isSo_94 : decode cX13_isSo 94 = .ok (.iconst 0, 1) := by decide +kernel
theorem dX13_isSo_95 : decode cX13_isSo 95 = .ok (.ireturn, 1) := by decide +kernel
theorem dX13_isSo_96 : decode cX13_isSo 96 = .ok (.aload_n 0, 1) := by decide +kernel
theorem dX13_isSo_97 : decode cX13_isSo 97 = .ok (.iload_n 1, 1) := by decide +kernel
theorem dX13_isSo_98 : decode cX13_isSo 98 = .ok (.iload_n 3, 1) := by decide +kernel
theorem dX13_isSo_99 : decode cX13_isSo 99 = .ok (.invokevirtual 387, 3) := by decide +kernel
theorem dX13_isSo_102 : decode cX13_isSo 102 = .ok (.iconst (-1), 1) := by decide +kernel
theorem dX13_isSo_103 : decode cX13_isSo 103 = .ok (.if_icmp .eq 7, 3) := by decide +kernel
theorem dX13_isSo_106 : decode cX13_isSo 106 = .ok (.iconst 1, 1) := by decide +kernel
theorem dX13_isSo_107 : decode cX13_isSo 107 = .ok (.goto 4, 3) := by decide +kernel
theorem dX13_isSo_110 : decode cX13_isSo 110 = .ok (.iconst 0, 1) := by decide +kernel
theorem dX13_isSo_111 : decode cX13_isSo 111 = .ok (.ireturn, 1) := by decide +kernel
theorem dX13_isSo_112 : decode cX13_isSo 112 = .ok (.aload_n 0, 1) := by decide +kernel
theorem dX13_isSo_113 : decode cX13_isSo 113 = .ok (.iload_n 1, 1) := by decide +kernel
theorem dX13_isSo_114 : decode cX13_isSo 114 = .ok (.iconst 0, 1) := by decide +kernel
theorem dX13_isSo_115 : decode cX13_isSo 115 = .ok (.invokevirtual 318, 3) := by decide +kernel
theorem dX13_isSo_118 : decode cX13_isSo 118 = .ok (.iload_n 3, 1) := by decide +kernel
theorem dX13_isSo_119 : decode cX13_isSo 119 = .ok (.if_icmp .lt 7, 3) := by decide +kernel
theorem dX13_isSo_122 : decode cX13_isSo 122 = .ok (.iconst 1, 1) := by decide +kernel
theorem dX13_isSo_123 : decode cX13_isSo 123 = .ok (.goto 4, 3) := by decide +kernel
theorem dX13_isSo_126 : decode cX13_isSo 126 = .ok (.iconst 0, 1) := by decide +kernel
theorem dX13_isSo_127 : decode cX13_isSo 127 = .ok (.ireturn, 1) := by decide +kernel
theorem dX13_isSo_128 : decode cX13_isSo 128 = .ok (.aload_n 0, 1) := by decide +kernel
theorem dX13_isSo_129 : decode cX13_isSo 129 = .ok (.getfield 37, 3) := by decide +kernel
theorem dX13_isSo_132 : decode cX13_isSo 132 = .ok (.aload_n 0, 1) := by decide +kernel
theorem dX13_isSo_133 : decode cX13_isSo 133 = .ok (.aload_n 0, 1) := by decide +kernel
theorem dX13_isSo_134 : decode cX13_isSo 134 = .ok (.getfield 52, 3) := by decide +kernel
theorem dX13_isSo_137 : decode cX13_isSo 137 = .ok (.iload_n 1, 1) := by decide +kernel
theorem dX13_isSo_138 : decode cX13_isSo 138 = .ok (.invokevirtual 235, 3) := by decide +kernel
theorem dX13_isSo_141 : decode cX13_isSo 141 = .ok (.iconst 2, 1) := by decide +kernel
theorem dX13_isSo_142 : decode cX13_isSo 142 = .ok (.iadd, 1) := by decide +kernel
theorem dX13_isSo_143 : decode cX13_isSo 143 = .ok (.iaload, 1) := by decide +kernel
theorem dX13_isSo_144 : decode cX13_isSo 144 = .ok (.iload_n 3, 1) := by decide +kernel
theorem dX13_isSo_145 : decode cX13_isSo 145 = .ok (.if_icmp .lt 7, 3) := by decide +kernel
theorem dX13_isSo_148 : decode cX13_isSo 148 = .ok (.iconst 1, 1) := by decide +kernel
theorem dX13_isSo_149 : decode cX13_isSo 149 = .ok (.goto 4, 3) := by decide +kernel
theorem dX13_isSo_152 : decode cX13_isSo 152 = .ok (.iconst 0, 1) := by decide +kernel
theorem dX13_isSo_153 : decode cX13_isSo 153 = .ok (.ireturn, 1) := by decide +kernel
theorem dX13_isSo_154 : decode cX13_isSo 154 = .ok (.aload_n 0, 1) := by decide +kernel
theorem dX13_isSo_155 : decode cX13_isSo 155 = .ok (.iload_n 3, 1) := by decide +kernel
theorem dX13_isSo_156 : decode cX13_isSo 156 = .ok (.invokevirtual 313, 3) := by decide +kernel
theorem dX13_isSo_159 : decode cX13_isSo 159 = .ok (.ifCond .eq 27, 3) := by decide +kernel
theorem dX13_isSo_162 : decode cX13_isSo 162 = .ok (.iload_n 3, 1) := by decide +kernel
theorem dX13_isSo_163 : decode cX13_isSo 163 = .ok (.iload_n 1, 1) := by decide +kernel
theorem dX13_isSo_164 : decode cX13_isSo 164 = .ok (.if_icmp .eq 22, 3) := by decide +kernel
theorem dX13_isSo_167 : decode cX13_isSo 167 = .ok (.aload_n 0, 1) := by decide +kernel
theorem dX13_isSo_168 : decode cX13_isSo 168 = .ok (.iload_n 3, 1) := by decide +kernel
theorem dX13_isSo_169 : decode cX13_isSo 169 = .ok (.iload_n 1, 1) := by decide +kernel
theorem dX13_isSo_170 : decode cX13_isSo 170 = .ok (.invokevirtual 340, 3) := by decide +kernel
theorem dX13_isSo_173 : decode cX13_isSo 173 = .ok (.aload_n 0, 1) := by decide +kernel
theorem dX13_isSo_174 : decode cX13_isSo 174 = .ok (.getfield 87, 3) := by decide +kernel
theorem dX13_isSo_177 : decode cX13_isSo 177 = .ok (.iload_n 2, 1) := by decide +kernel
theorem dX13_isSo_178 : decode cX13_isSo 178 = .ok (.iaload, 1) := by decide +kernel
theorem dX13_isSo_179 : decode cX13_isSo 179 = .ok (.if_icmp .ne 7, 3) := by decide +kernel
theorem dX13_isSo_182 : decode cX13_isSo 182 = .ok (.iconst 1, 1) := by decide +kernel
theorem dX13_isSo_183 : decode cX13_isSo 183 = .ok (.goto 4, 3) := by decide +kernel
theorem dX13_isSo_186 : decode cX13_isSo 186 = .ok (.iconst 0, 1) := by decide +kernel
theorem dX13_isSo_187 : decode cX13_isSo 187 = .ok (.ireturn, 1) := by decide +kernel
theorem dX13_can_0 : decode cX13_can 0 = .ok (.aload_n 0, 1) := by decide +kernel
theorem dX13_can_1 : decode cX13_can 1 = .ok (.iconst 0, 1) := by decide +kernel
theorem dX13_can_2 : decode cX13_can 2 = .ok (.putfield 102, 3) := by decide +kernel
theorem dX13_can_5 : decode cX13_can 5 = .ok (.aload_n 0, 1) := by decide +kernel
theorem dX13_can_6 : decode cX13_can 6 = .ok (.getfield 52, 3) := by decide +kernel
theorem dX13_can_9 : decode cX13_can 9 = .ok (.iconst (-1), 1) := by decide +kernel
theorem dX13_can_10 : decode cX13_can 10 = .ok (.if_icmp .eq 13, 3) := by decide +kernel
theorem dX13_can_13 : decode cX13_can 13 = .ok (.iload_n 1, 1) := by decide +kernel
theorem dX13_can_14 : decode cX13_can 14 = .ok (.i2l, 1) := by decide +kernel
theorem dX13_can_15 : decode cX13_can 15 = .ok (.lconst 0, 1) := by decide +kernel
theorem dX13_can_16 : decode cX13_can 16 = .ok (.lconst 1, 1) := by decide +kernel
theorem dX13_can_17 : decode cX13_can 17 = .ok (.invokestatic 231, 3) := by decide +kernel
theorem dX13_can_20 : decode cX13_can 20 = .ok (.ifCond .ne 5, 3) := by decide +kernel
theorem dX13_can_23 : decode cX13_can 23 = .ok (.iconst (-1), 1) := by decide +kernel
theorem dX13_can_24 : decode cX13_can 24 = .ok (.ireturn, 1) := by decide +kernel
theorem dX13_can_25 : decode cX13_can 25 = .ok (.iconst 0, 1) := by decide +kernel
theorem dX13_can_26 : decode cX13_can 26 = .ok (.istore_n 2, 1) := by decide +kernel
theorem dX13_can_27 : decode cX13_can 27 = .ok (.iconst 0, 1) := by decide +kernel
theorem dX13_can_28 : decode cX13_can 28 = .ok (.istore_n 3, 1) := by decide +kernel
theorem dX13_can_29 : decode cX13_can 29 = .ok (.iload_n 3, 1) := by decide +kernel
theorem dX13_can_30 : decode cX13_can 30 = .ok (.aload_n 0, 1) := by decide +kernel
theorem dX13_can_31 : decode cX13_can 31 = .ok (.getfield 46, 3) := by decide +kernel
theorem dX13_can_34 : decode cX13_can 34 = .ok (.aload_n 0, 1) := by decide +kernel
theorem dX13_can_35 : decode cX13_can 35 = .ok (.getfield 52, 3) := by decide +kernel
theorem dX13_can_38 : decode cX13_can 38 = .ok (.iaload, 1) := by decide +kernel
theorem dX13_can_39 : decode cX13_can 39 = .ok (.if_icmp .ge 67, 3) := by decide +kernel
theorem dX13_can_42 : decode cX13_can 42 = .ok (.iconst 1, 1) := by decide +kernel
theorem dX13_can_43 : decode cX13_can 43 = .ok (.istore 4, 2) := by decide +kernel
theorem dX13_can_45 : decode cX13_can 45 = .ok (.iconst 0, 1) := by decide +kernel
theorem dX13_can_46 : decode cX13_can 46 = .ok (.istore 5, 2) := by decide +kernel
theorem dX13_can_48 : decode cX13_can 48 = .ok (.iload 5, 2) := by decide +kernel
theorem dX13_can_50 : decode cX13_can 50 = .ok (.aload_n 0, 1) := by decide +kernel
theorem dX13_can_51 : decode cX13_can 51 = .ok (.getfield 295, 3) := by decide +kernel
theorem dX13_can_54 : decode cX13_can 54 = .ok (.if_icmp .ge 31, 3) := by decide +kernel
theorem dX13_can_57 : decode cX13_can 57 = .ok (.iload 4, 2) := by decide +kernel
theorem dX13_can_59 : decode cX13_can 59 = .ok (.ifCond .eq 17, 3) := by decide +kernel
theorem dX13_can_62 : decode cX13_can 62 = .ok (.aload_n 0, 1) := by decide +kernel
theorem dX13_can_63 : decode cX13_can 63 = .ok (.iload_n 3, 1) := by decide +kernel
theorem dX13_can_64 : decode cX13_can 64 = .ok (.iload 5, 2) := by decide +kernel
theorem dX13_can_66 : decode cX13_can 66 = .ok (.invokevirtual 440, 3) := by decide +kernel
theorem dX13_can_69 : decode cX13_can 69 = .ok (.ifCond .eq 7, 3) := by decide +kernel
theorem dX13_can_72 : decode cX13_can 72 = .ok (.iconst 1, 1) := by decide +kernel
theorem dX13_can_73 : decode cX13_can 73 = .ok (.goto 4, 3) := by decide +kernel
theorem dX13_can_76 : decode cX13_can 76 = .ok (.iconst 0, 1) := by decide +kernel
theorem dX13_can_77 : decode cX13_can 77 = .ok (.istore 4, 2) := by decide +kernel
theorem dX13_can_79 : decode cX13_can 79 = .ok (.iinc 5 1, 3) := by decide +kernel
theorem dX13_can_82 : decode cX13_can 82 = .ok (.goto (-34), 3) := by decide +kernel
theorem dX13_can_85 : decode cX13_can 85 = .ok (.iload_n 2, 1) := by decide +kernel
theorem dX13_can_86 : decode cX13_can 86 = .ok (.iload 4, 2) := by decide +kernel
theorem dX13_can_88 : decode cX13_can 88 = .ok (.ifCond .eq 9, 3) := by decide +kernel
theorem dX13_can_91 : decode cX13_can 91 = .ok (.iconst 1, 1) := by decide +kernel
theorem dX13_can_92 : decode cX13_can 92 = .ok (.iload_n 3, 1) := by decide +kernel
theorem dX13_can_93 : decode cX13_can 93 = .ok (.ishl, 1) := by decide +kernel
theorem dX13_can_94 : decode cX13_can 94 = .ok (.goto 4, 3) := by decide +kernel
theorem dX13_can_97 : decode cX13_can 97 = .ok (.iconst 0, 1) := by decide +kernel
theorem dX13_can_98 : decode cX13_can 98 = .ok (.ior, 1) := by decide +kernel
theorem dX13_can_99 : decode cX13_can 99 = .ok (.istore_n 2, 1) := by decide +kernel
theorem dX13_can_100 : decode cX13_can 100 = .ok (.iinc 3 1, 3) := by decide +kernel
theorem dX13_can_103 : decode cX13_can 103 = .ok (.goto (-74), 3) := by decide +kernel
theorem dX13_can_106 : decode cX13_can 106 = .ok (.iload_n 1, 1) := by decide +kernel
theorem dX13_can_107 : decode cX13_can 107 = .ok (.ifCond .ne 5, 3) := by decide +kernel
theorem dX13_can_110 : decode cX13_can 110 = .ok (.iload_n 2, 1) := by decide +kernel
theorem dX13_can_111 : decode cX13_can 111 = .ok (.ireturn, 1) := by decide +kernel
theorem dX13_can_112 : decode cX13_can 112 = .ok (.iconst 0, 1) := by decide +kernel
theorem dX13_can_113 : decode cX13_can 113 = .ok (.istore_n 3, 1) := by decide +kernel
theorem dX13_can_114 : decode cX13_can 114 = .ok (.iload_n 3, 1) := by decide +kernel
theorem dX13_can_115 : decode cX13_can 115 = .ok (.bipush 72, 2) := by decide +kernel
theorem dX13_can_117 : decode cX13_can 117 = .ok (.if_icmp .ge 28, 3) := by decide +kernel
theorem dX13_can_120 : decode cX13_can 120 = .ok (.aload_n 0, 1) := by decide +kernel
theorem dX13_can_121 : decode cX13_can 121 = .ok (.getfield 90, 3) := by decide +kernel
theorem dX13_can_124 : decode cX13_can 124 = .ok (.iload_n 3, 1) := by decide +kernel
theorem dX13_can_125 : decode cX13_can 125 = .ok (.aload_n 0, 1) := by decide +kernel
theorem dX13_can_126 : decode cX13_can 126 = .ok (.getfield 56, 3) := by decide +kernel
theorem dX13_can_129 : decode cX13_can 129 = .ok (.iload_n 3, 1) := by decide +kernel
theorem dX13_can_130 : decode cX13_can 130 = .ok (.baload, 1) := by decide +kernel
theorem dX13_can_131 : decode cX13_can 131 = .ok (.bastore, 1) := by decide +kernel
theorem dX13_can_132 : decode cX13_can 132 = .ok (.aload_n 0, 1) := by decide +kernel
theorem dX13_can_133 : decode cX13_can 133 = .ok (.getfield 56, 3) := by decide +kernel
theorem dX13_can_136 : decode cX13_can 136 = .ok (.iload_n 3, 1) := by decide +kernel
theorem dX13_can_137 : decode cX13_can 137 = .ok (.iconst 1, 1) := by decide +kernel
theorem dX13_can_138 : decode cX13_can 138 = .ok (.bastore, 1) := by decide +kernel
theorem dX13_can_139 : decode cX13_can 139 = .ok (.iinc 3 1, 3) := by decide +kernel
theorem dX13_can_142 : decode cX13_can 142 = .ok (.goto (-28), 3) := by decide +kernel
theorem dX13_can_145 : decode cX13_can 145 = .ok (.iconst (-1), 1) := by decide +kernel
theorem dX13_can_146 : decode cX13_can 146 = .ok (.istore_n 3, 1) := by decide +kernel
theorem dX13_can_147 : decode cX13_can 147 = .ok (.iconst 0, 1) := by decide +kernel
theorem dX13_can_148 : decode cX13_can 148 = .ok (.istore 4, 2) := by decide +kernel
theorem dX13_can_150 : decode cX13_can 150 = .ok (.iconst 0, 1) := by decide +kernel
theorem dX13_can_151 : decode cX13_can 151 = .ok (.istore 5, 2) := by decide +kernel
theorem dX13_can_153 : decode cX13_can 153 = .ok (.iload 5, 2) := by decide +kernel
theorem dX13_can_155 : decode cX13_can 155 = .ok (.aload_n 0, 1) := by decide +kernel
theorem dX13_can_156 : decode cX13_can 156 = .ok (.getfield 46, 3) := by decide +kernel
theorem dX13_can_159 : decode cX13_can 159 = .ok (.aload_n 0, 1) := by decide +kernel
theorem dX13_can_160 : decode cX13_can 160 = .ok (.getfield 52, 3) := by decide +kernel
theorem dX13_can_163 : decode cX13_can 163 = .ok (.iaload, 1) := by decide +kernel
theorem dX13_can_164 : decode cX13_can 164 = .ok (.if_icmp .ge 48, 3) := by decide +kernel
theorem dX13_can_167 : decode cX13_can 167 = .ok (.iload_n 2, 1) := by decide +kernel
theorem dX13_can_168 : decode cX13_can 168 = .ok (.iload 5, 2) := by decide +kernel
theorem dX13_can_170 : decode cX13_can 170 = .ok (.invokestatic 224, 3) := by decide +kernel
theorem dX13_can_173 : decode cX13_can 173 = .ok (.ifCond .eq 33, 3) := by decide +kernel
theorem dX13_can_176 : decode cX13_can 176 = .ok (.iload_n 3, 1) := by decide +kernel
theorem dX13_can_177 : decode cX13_can 177 = .ok (.iconst (-1), 1) := by decide +kernel
theorem dX13_can_178 : decode cX13_can 178 = .ok (.if_icmp .eq 17, 3) := by decide +kernel
theorem dX13_can_181 : decode cX13_can 181 = .ok (.aload_n 0, 1) := by decide +kernel
theorem dX13_can_182 : decode cX13_can 182 = .ok (.iload 5, 2) := by decide +kernel
theorem dX13_can_184 : decode cX13_can 184 = .ok (.invokevirtual 364, 3) := by decide +kernel
theorem dX13_can_187 : decode cX13_can 187 = .ok (.iload 4, 2) := by decide +kernel
theorem dX13_can_189 : decode cX13_can 189 = .ok (.if_icmp .gt 6, 3) := by decide +kernel
theorem dX13_can_192 : decode cX13_can 192 = .ok (.goto 14, 3) := by decide +kernel
theorem dX13_can_195 : decode cX13_can 195 = .ok (.iload 5, 2) := by decide +kernel
theorem dX13_can_197 : decode cX13_can 197 = .ok (.istore_n 3, 1) := by decide +kernel
theorem dX13_can_198 : decode cX13_can 198 = .ok (.aload_n 0, 1) := by decide +kernel
theorem dX13_can_199 : decode cX13_can 199 = .ok (.iload 5, 2) := by decide +kernel
theorem dX13_can_201 : decode cX13_can 201 = .ok (.invokevirtual 364, 3) := by decide +kernel
theorem dX13_can_204 : decode cX13_can 204 = .ok (.istore 4, 2) := by decide +kernel
theorem dX13_can_206 : decode cX13_can 206 = .ok (.iinc 5 1, 3) := by decide +kernel
theorem dX13_can_209 : decode cX13_can 209 = .ok (.goto (-56), 3) := by decide +kernel
theorem dX13_can_212 : decode cX13_can 212 = .ok (.iconst 0, 1) := by decide +kernel
theorem dX13_can_213 : decode cX13_can 213 = .ok (.istore 5, 2) := by decide +kernel
theorem dX13_can_215 : decode cX13_can 215 = .ok (.iload 5, 2) := by decide +kernel
theorem dX13_can_217 : decode cX13_can 217 = .ok (.bipush 72, 2) := by decide +kernel
theorem dX13_can_219 : decode cX13_can 219 = .ok (.if_icmp .ge 23, 3) := by decide +kernel
theorem dX13_can_222 : decode cX13_can 222 = .ok (.aload_n 0, 1) := by decide +kernel
theorem dX13_can_223 : decode cX13_can 223 = .ok (.getfield 56, 3) := by decide +kernel
theorem dX13_can_226 : decode cX13_can 226 = .ok (.iload 5, 2) := by decide +kernel
theorem dX13_can_228 : decode cX13_can 228 = .ok (.aload_n 0, 1) := by decide +kernel
theorem dX13_can_229 : decode cX13_can 229 = .ok (.getfield 90, 3) := by decide +kernel
theorem dX13_can_232 : decode cX13_can 232 = .ok (.iload 5, 2) := by decide +kernel
theorem dX13_can_234 : decode cX13_can 234 = .ok (.baload, 1) := by decide +kernel
theorem dX13_can_235 : decode cX13_can 235 = .ok (.bastore, 1) := by decide +kernel
theorem dX13_can_236 : decode cX13_can 236 = .ok (.iinc 5 1, 3) := by decide +kernel
theorem dX13_can_239 : decode cX13_can 239 = .ok (.goto (-24), 3) := by decide +kernel
theorem dX13_can_242 : decode cX13_can 242 = .ok (.iload_n 3, 1) := by decide +kernel
theorem dX13_can_243 : decode cX13_can 243 = .ok (.ireturn, 1) := by decide +kernel
theorem dX13_crossOf_0 : decode cX13_crossOf 0 = .ok (.iconst 0, 1) := by decide +kernel
theorem dX13_crossOf_1 : decode cX13_crossOf 1 = .ok (.istore 5, 2) := by decide +kernel
theorem dX13_crossOf_3 : decode cX13_crossOf 3 = .ok (.iconst 0, 1) := by decide +kernel
theorem dX13_crossOf_4 : decode cX13_crossOf 4 = .ok (.istore 6, 2) := by decide +kernel
theorem dX13_crossOf_6 : decode cX13_crossOf 6 = .ok (.iload 6, 2) := by decide +kernel
theorem dX13_crossOf_8 : decode cX13_crossOf 8 = .ok (.bipush 10, 2) := by decide +kernel
theorem dX13_crossOf_10 : decode cX13_crossOf 10 = .ok (.if_icmp .ge 61, 3) := by decide +kernel
theorem dX13_crossOf_13 : decode cX13_crossOf 13 = .ok (.iconst 1, 1) := by decide +kernel
theorem dX13_crossOf_14 : decode cX13_crossOf 14 = .ok (.istore 7, 2) := by decide +kernel
theorem dX13_crossOf_16 : decode cX13_crossOf 16 = .ok (.iload 7, 2) := by decide +kernel
theorem dX13_crossOf_18 : decode cX13_crossOf 18 = .ok (.bipush 100, 2) := by decide +kernel
theorem dX13_crossOf_20 : decode cX13_crossOf 20 = .ok (.if_icmp .ge 45, 3) := by decide +kernel
theorem dX13_crossOf_23 : decode cX13_crossOf 23 = .ok (.aload_n 0, 1) := by decide +kernel
theorem dX13_crossOf_24 : decode cX13_crossOf 24 = .ok (.iload_n 1, 1) := by decide +kernel
theorem dX13_crossOf_25 : decode cX13_crossOf 25 = .ok (.iload_n 2, 1) := by decide +kernel
theorem dX13_crossOf_26 : decode cX13_crossOf 26 = .ok (.iload 6, 2) := by decide +kernel
theorem dX13_crossOf_28 : decode cX13_crossOf 28 = .ok (.iload 7, 2) := by decide +kernel
theorem dX13_crossOf_30 : decode cX13_crossOf 30 = .ok (.invokevirtual 443, 3) := by decide +kernel
theorem dX13_crossOf_33 : decode cX13_crossOf 33 = .ok (.ifCond .eq 26, 3) := by decide +kernel
theorem dX13_crossOf_36 : decode cX13_crossOf 36 = .ok (.aload_n 0, 1) := by decide +kernel
theorem dX13_crossOf_37 : decode cX13_crossOf 37 = .ok (.iload_n 3, 1) := by decide +kernel
theorem dX13_crossOf_38 : decode cX13_crossOf 38 = .ok (.iload 4, 2) := by decide +kernel
theorem dX13_crossOf_40 : decode cX13_crossOf 40 = .ok (.iload 6, 2) := by decide +kernel
theorem dX13_crossOf_42 : decode cX13_crossOf 42 = .ok (.iload 7, 2) := by decide +kernel
theorem dX13_crossOf_44 : decode cX13_crossOf 44 = .ok (.invokevirtual 443, 3) := by decide +kernel
theorem dX13_crossOf_47 : decode cX13_crossOf 47 = .ok (.ifCond .eq 12, 3) := by decide +kernel
theorem dX13_crossOf_50 : decode cX13_crossOf 50 = .ok (.iload 5, 2) := by decide +kernel
theorem dX13_crossOf_52 : decode cX13_crossOf 52 = .ok (.iconst 1, 1) := by decide +kernel
theorem dX13_crossOf_53 : decode cX13_crossOf 53 = .ok (.iload 6, 2) := by decide +kernel
theorem dX13_crossOf_55 : decode cX13_crossOf 55 = .ok (.ishl, 1) := by decide +kernel
theorem dX13_crossOf_56 : decode cX13_crossOf 56 = .ok (.ior, 1) := by decide +kernel
theorem dX13_crossOf_57 : decode cX13_crossOf 57 = .ok (.istore 5, 2) := by decide +kernel
theorem dX13_crossOf_59 : decode cX13_crossOf 59 = .ok (.iinc 7 1, 3) := by decide +kernel
theorem dX13_crossOf_62 : decode cX13_crossOf 62 = .ok (.goto (-46), 3) := by decide +kernel
theorem dX13_crossOf_65 : decode cX13_crossOf 65 = .ok (.iinc 6 1, 3) := by decide +kernel
theorem dX13_crossOf_68 : decode cX13_crossOf 68 = .ok (.goto (-62), 3) := by decide +kernel
theorem dX13_crossOf_71 : decode cX13_crossOf 71 = .ok (.iload 5, 2) := by decide +kernel
theorem dX13_crossOf_73 : decode cX13_crossOf 73 = .ok (.ireturn, 1) := by decide +kernel
theorem dX13_hasIn_0 : decode cX13_hasIn 0 = .ok (.aload_n 0, 1) := by decide +kernel
theorem dX13_hasIn_1 : decode cX13_hasIn 1 = .ok (.iload_n 1, 1) := by decide +kernel
theorem dX13_hasIn_2 : decode cX13_hasIn 2 = .ok (.iload_n 2, 1) := by decide +kernel
theorem dX13_hasIn_3 : decode cX13_hasIn 3 = .ok (.invokevirtual 310, 3) := by decide +kernel
theorem dX13_hasIn_6 : decode cX13_hasIn 6 = .ok (.iconst 0, 1) := by decide +kernel
theorem dX13_hasIn_7 : decode cX13_hasIn 7 = .ok (.istore 5, 2) := by decide +kernel
theorem dX13_hasIn_9 : decode cX13_hasIn 9 = .ok (.iload 5, 2) := by decide +kernel
theorem dX13_hasIn_11 : decode cX13_hasIn 11 = .ok (.aload_n 0, 1) := by decide +kernel
theorem dX13_hasIn_12 : decode cX13_hasIn 12 = .ok (.getfield 307, 3) := by decide +kernel
theorem dX13_hasIn_15 : decode cX13_hasIn 15 = .ok (.if_icmp .ge 63, 3) := by decide +kernel
theorem dX13_hasIn_18 : decode cX13_hasIn 18 = .ok (.aload_n 0, 1) := by decide +kernel
theorem dX13_hasIn_19 : decode cX13_hasIn 19 = .ok (.getfield 40, 3) := by decide +kernel
theorem dX13_hasIn_22 : decode cX13_hasIn 22 = .ok (.aload_n 0, 1) := by decide +kernel
theorem dX13_hasIn_23 : decode cX13_hasIn 23 = .ok (.iload_n 1, 1) := by decide +kernel
theorem dX13_hasIn_24 : decode cX13_hasIn 24 = .ok (.aload_n 0, 1) := by decide +kernel
theorem dX13_hasIn_25 : decode cX13_hasIn 25 = .ok (.getfield 63, 3) := by decide +kernel
theorem dX13_hasIn_28 : decode cX13_hasIn 28 = .ok (.iload 5, 2) := by decide +kernel
theorem dX13_hasIn_30 : decode cX13_hasIn 30 = .ok (.iaload, 1) := by decide +kernel
theorem dX13_hasIn_31 : decode cX13_hasIn 31 = .ok (.invokevirtual 249, 3) := by decide +kernel
theorem dX13_hasIn_34 : decode cX13_hasIn 34 = .ok (.iaload, 1) := by decide +kernel
theorem dX13_hasIn_35 : decode cX13_hasIn 35 = .ok (.iload 4, 2) := by decide +kernel
theorem dX13_hasIn_37 : decode cX13_hasIn 37 = .ok (.if_icmp .ne 35, 3) := by decide +kernel
theorem dX13_hasIn_40 : decode cX13_hasIn 40 = .ok (.aload_n 0, 1) := by decide +kernel
theorem dX13_hasIn_41 : decode cX13_hasIn 41 = .ok (.getfield 43, 3) := by decide +kernel
theorem dX13_hasIn_44 : decode cX13_hasIn 44 = .ok (.aload_n 0, 1) := by decide +kernel
theorem dX13_hasIn_45 : decode cX13_hasIn 45 = .ok (.iload_n 1, 1) := by decide +kernel
theorem dX13_hasIn_46 : decode cX13_hasIn 46 = .ok (.aload_n 0, 1) := by decide +kernel
theorem dX13_hasIn_47 : decode cX13_hasIn 47 = .ok (.getfield 63, 3) := by decide +kernel
theorem dX13_hasIn_50 : decode cX13_hasIn 50 = .ok (.iload 5, 2) := by decide +kernel
theorem dX13_hasIn_52 : decode cX13_hasIn 52 = .ok (.iaload, 1) := by decide +kernel
theorem dX13_hasIn_53 : decode cX13_hasIn 53 = .ok (.aload_n 0, 1) := by decide +kernel
theorem dX13_hasIn_54 : decode cX13_hasIn 54 = .ok (.getfield 66, 3) := by decide +kernel
theorem dX13_hasIn_57 : decode cX13_hasIn 57 = .ok (.iload 5, 2) := by decide +kernel
theorem dX13_hasIn_59 : decode cX13_hasIn 59 = .ok (.iaload, 1) := by decide +kernel
theorem dX13_hasIn_60 : decode cX13_hasIn 60 = .ok (.invokevirtual 262, 3) := by decide +kernel
theorem dX13_hasIn_63 : decode cX13_hasIn 63 = .ok (.iconst 4, 1) := by decide +kernel
theorem dX13_hasIn_64 : decode cX13_hasIn 64 = .ok (.iadd, 1) := by decide +kernel
theorem dX13_hasIn_65 : decode cX13_hasIn 65 = .ok (.iaload, 1) := by decide +kernel
theorem dX13_hasIn_66 : decode cX13_hasIn 66 = .ok (.iload_n 3, 1) := by decide +kernel
theorem dX13_hasIn_67 : decode cX13_hasIn 67 = .ok (.if_icmp .ne 5, 3) := by decide +kernel
theorem dX13_hasIn_70 : decode cX13_hasIn 70 = .ok (.iconst 1, 1) := by decide +kernel
theorem dX13_hasIn_71 : decode cX13_hasIn 71 = .ok (.ireturn, 1) := by decide +kernel
theorem dX13_hasIn_72 : decode cX13_hasIn 72 = .ok (.iinc 5 1, 3) := by decide +kernel
theorem dX13_hasIn_75 : decode cX13_hasIn 75 = .ok (.goto (-66), 3) := by decide +kernel
theorem dX13_hasIn_78 : decode cX13_hasIn 78 = .ok (.iconst 0, 1) := by decide +kernel
theorem dX13_hasIn_79 : decode cX13_hasIn 79 = .ok (.ireturn, 1) := by decide +kernel
theorem dX13_isCode_0 : decode cX13_isCode 0 = .ok (.iload_n 1, 1) := by decide +kernel
theorem dX13_isCode_1 : decode cX13_isCode 1 = .ok (.ifCond .lt 34, 3) := by decide +kernel
theorem dX13_isCode_4 : decode cX13_isCode 4 = .ok (.iload_n 1, 1) := by decide +kernel
theorem dX13_isCode_5 : decode cX13_isCode 5 = .ok (.bipush 100, 2) := by decide +kernel
theorem dX13_isCode_7 : decode cX13_isCode 7 = .ok (.idiv, 1) := by decide +kernel
theorem dX13_isCode_8 : decode cX13_isCode 8 = .ok (.aload_n 0, 1) := by decide +kernel
theorem dX13_isCode_9 : decode cX13_isCode 9 = .ok (.getfield 281, 3) := by decide +kernel
theorem dX13_isCode_12 : decode cX13_isCode 12 = .ok (.if_icmp .ge 23, 3) := by decide +kernel
theorem dX13_isCode_15 : decode cX13_isCode 15 = .ok (.iload_n 1, 1) := by decide +kernel
theorem dX13_isCode_16 : decode cX13_isCode 16 = .ok (.bipush 100, 2) := by decide +kernel
theorem dX13_isCode_18 : decode cX13_isCode 18 = .ok (.irem, 1) := by decide +kernel
theorem dX13_isCode_19 : decode cX13_isCode 19 = .ok (.aload_n 0, 1) := by decide +kernel
theorem dX13_isCode_20 : decode cX13_isCode 20 = .ok (.getfield 46, 3) := by decide +kernel
theorem dX13_isCode_23 : decode cX13_isCode 23 = .ok (.iload_n 1, 1) := by decide +kernel
theorem dX13_isCode_24 : decode cX13_isCode 24 = .ok (.bipush 100, 2) := by decide +kernel
theorem dX13_isCode_26 : decode cX13_isCode 26 = .ok (.idiv, 1) := by decide +kernel
theorem dX13_isCode_27 : decode cX13_isCode 27 = .ok (.iaload, 1) := by decide +kernel
theorem dX13_isCode_28 : decode cX13_isCode 28 = .ok (.if_icmp .ge 7, 3) := by decide +kernel
theorem dX13_isCode_31 : decode cX13_isCode 31 = .ok (.iconst 1, 1) := by decide +kernel
theorem dX13_isCode_32 : decode cX13_isCode 32 = .ok (.goto 4, 3) := by decide +kernel
theorem dX13_isCode_35 : decode cX13_isCode 35 = .ok (.iconst 0, 1) := by decide +kernel
theorem dX13_isCode_36 : decode cX13_isCode 36 = .ok (.ireturn, 1) := by decide +kernel
theorem dX13_cross_0 : decode cX13_cross 0 = .ok (.aload_n 0, 1) := by decide +kernel
theorem dX13_cross_1 : decode cX13_cross 1 = .ok (.iconst 0, 1) := by decide +kernel
theorem dX13_cross_2 : decode cX13_cross 2 = .ok (.putfield 102, 3) := by decide +kernel
theorem dX13_cross_5 : decode cX13_cross 5 = .ok (.aload_n 0, 1) := by decide +kernel
theorem dX13_cross_6 : decode cX13_cross 6 = .ok (.iload_n 1, 1) := by decide +kernel
theorem dX13_cross_7 : decode cX13_cross 7 = .ok (.invokevirtual 447, 3) := by decide +kernel
theorem dX13_cross_10 : decode cX13_cross 10 = .ok (.ifCond .eq 45, 3) := by decide +kernel
theorem dX13_cross_13 : decode cX13_cross 13 = .ok (.aload_n 0, 1) := by decide +kernel
theorem dX13_cross_14 : decode cX13_cross 14 = .ok (.iload_n 2, 1) := by decide +kernel
theorem dX13_cross_15 : decode cX13_cross 15 = .ok (.invokevirtual 447, 3) := by decide +kernel
theorem dX13_cross_18 : decode cX13_cross 18 = .ok (.ifCond .eq 37, 3) := by decide +kernel
theorem dX13_cross_21 : decode cX13_cross 21 = .ok (.iload_n 1, 1) := by decide +kernel
theorem dX13_cross_22 : decode cX13_cross 22 = .ok (.bipush 100, 2) := by decide +kernel
theorem dX13_cross_24 : decode cX13_cross 24 = .ok (.idiv, 1) := by decide +kernel
theorem dX13_cross_25 : decode cX13_cross 25 = .ok (.iload_n 2, 1) := by decide +kernel
theorem dX13_cross_26 : decode cX13_cross 26 = .ok (.bipush 100, 2) := by decide +kernel
theorem dX13_cross_28 : decode cX13_cross 28 = .ok (.idiv, 1) := by decide +kernel
theorem dX13_cross_29 : decode cX13_cross 29 = .ok (.if_icmp .eq 26, 3) := by decide +kernel
theorem dX13_cross_32 : decode cX13_cross 32 = .ok (.aload_n 0, 1) := by decide +kernel
theorem dX13_cross_33 : decode cX13_cross 33 = .ok (.iload_n 1, 1) := by decide +kernel
theorem dX13_cross_34 : decode cX13_cross 34 = .ok (.bipush 100, 2) := by decide +kernel
theorem dX13_cross_36 : decode cX13_cross 36 = .ok (.idiv, 1) := by decide +kernel
theorem dX13_cross_37 : decode cX13_cross 37 = .ok (.iload_n 1, 1) := by decide +kernel
theorem dX13_cross_38 : decode cX13_cross 38 = .ok (.bipush 100, 2) := by decide +kernel
theorem dX13_cross_40 : decode cX13_cross 40 = .ok (.irem, 1) := by decide +kernel
theorem dX13_cross_41 : decode cX13_cross 41 = .ok (.iload_n 2, 1) := by decide +kernel
theorem dX13_cross_42 : decode cX13_cross 42 = .ok (.bipush 100, 2) := by decide +kernel
theorem dX13_cross_44 : decode cX13_cross 44 = .ok (.idiv, 1) := by decide +kernel
theorem dX13_cross_45 : decode cX13_cross 45 = .ok (.iload_n 2, 1) := by decide +kernel
theorem dX13_cross_46 : decode cX13_cross 46 = .ok (.bipush 100, 2) := by decide +kernel
theorem dX13_cross_48 : decode cX13_cross 48 = .ok (.irem, 1) := by decide +kernel
theorem dX13_cross_49 : decode cX13_cross 49 = .ok (.invokevirtual 450, 3) := by decide +kernel
theorem dX13_cross_52 : decode cX13_cross 52 = .ok (.goto 4, 3) := by decide +kernel
theorem dX13_cross_55 : decode cX13_cross 55 = .ok (.iconst (-1), 1) := by decide +kernel
theorem dX13_cross_56 : decode cX13_cross 56 = .ok (.ireturn, 1) := by decide +kernel
theorem dX13_meetings_0 : decode cX13_meetings 0 = .ok (.aload_n 0, 1) := by decide +kernel
theorem dX13_meetings_1 : decode cX13_meetings 1 = .ok (.iconst 0, 1) := by decide +kernel
theorem dX13_meetings_2 : decode cX13_meetings 2 = .ok (.putfield 102, 3) := by decide +kernel
theorem dX13_meetings_5 : decode cX13_meetings 5 = .ok (.iload_n 1, 1) := by decide +kernel
theorem dX13_meetings_6 : decode cX13_meetings 6 = .ok (.i2l, 1) := by decide +kernel
theorem dX13_meetings_7 : decode cX13_meetings 7 = .ok (.lconst 0, 1) := by decide +kernel
theorem dX13_meetings_8 : decode cX13_meetings 8 = .ok (.aload_n 0, 1) := by decide +kernel
theorem dX13_meetings_9 : decode cX13_meetings 9 = .ok (.getfield 281, 3) := by decide +kernel
theorem dX13_meetings_12 : decode cX13_meetings 12 = .ok (.iconst 1, 1) := by decide +kernel
theorem dX13_meetings_13 : decode cX13_meetings 13 = .ok (.isub, 1) := by decide +kernel
theorem dX13_meetings_14 : decode cX13_meetings 14 = .ok (.i2l, 1) := by decide +kernel
theorem dX13_meetings_15 : decode cX13_meetings 15 = .ok (.invokestatic 231, 3) := by decide +kernel
theorem dX13_meetings_18 : decode cX13_meetings 18 = .ok (.ifCond .eq 34, 3) := by decide +kernel
theorem dX13_meetings_21 : decode cX13_meetings 21 = .ok (.iload_n 2, 1) := by decide +kernel
theorem dX13_meetings_22 : decode cX13_meetings 22 = .ok (.i2l, 1) := by decide +kernel
theorem dX13_meetings_23 : decode cX13_meetings 23 = .ok (.lconst 0, 1) := by decide +kernel
theorem dX13_meetings_24 : decode cX13_meetings 24 = .ok (.aload_n 0, 1) := by decide +kernel
theorem dX13_meetings_25 : decode cX13_meetings 25 = .ok (.getfield 281, 3) := by decide +kernel
theorem dX13_meetings_28 : decode cX13_meetings 28 = .ok (.iconst 1, 1) := by decide +kernel
theorem dX13_meetings_29 : decode cX13_meetings 29 = .ok (.isub, 1) := by decide +kernel
theorem dX13_meetings_30 : decode cX13_meetings 30 = .ok (.i2l, 1) := by decide +kernel
theorem dX13_meetings_31 : decode cX13_meetings 31 = .ok (.invokestatic 231, 3) := by decide +kernel
theorem dX13_meetings_34 : decode cX13_meetings 34 = .ok (.ifCond .eq 18, 3) := by decide +kernel
theorem dX13_meetings_37 : decode cX13_meetings 37 = .ok (.iload_n 1, 1) := by decide +kernel
theorem dX13_meetings_38 : decode cX13_meetings 38 = .ok (.iload_n 2, 1) := by decide +kernel
theorem dX13_meetings_39 : decode cX13_meetings 39 = .ok (.if_icmp .eq 13, 3) := by decide +kernel
theorem dX13_meetings_42 : decode cX13_meetings 42 = .ok (.iload_n 3, 1) := by decide +kernel
theorem dX13_meetings_43 : decode cX13_meetings 43 = .ok (.i2l, 1) := by decide +kernel
theorem dX13_meetings_44 : decode cX13_meetings 44 = .ok (.lconst 0, 1) := by decide +kernel
theorem dX13_meetings_45 : decode cX13_meetings 45 = .ok (.lconst 1, 1) := by decide +kernel
theorem dX13_meetings_46 : decode cX13_meetings 46 = .ok (.invokestatic 231, 3) := by decide +kernel
theorem dX13_meetings_49 : decode cX13_meetings 49 = .ok (.ifCond .ne 5, 3) := by decide +kernel
theorem dX13_meetings_52 : decode cX13_meetings 52 = .ok (.iconst (-1), 1) := by decide +kernel
theorem dX13_meetings_53 : decode cX13_meetings 53 = .ok (.ireturn, 1) := by decide +kernel
theorem dX13_meetings_54 : decode cX13_meetings 54 = .ok (.iconst 0, 1) := by decide +kernel
theorem dX13_meetings_55 : decode cX13_meetings 55 = .ok (.istore 4, 2) := by decide +kernel
theorem dX13_meetings_57 : decode cX13_meetings 57 = .ok (.iconst (-1), 1) := by decide +kernel
theorem dX13_meetings_58 : decode cX13_meetings 58 = .ok (.istore 5, 2) := by decide +kernel
theorem dX13_meetings_60 : decode cX13_meetings 60 = .ok (.iconst 0, 1) := by decide +kernel
theorem dX13_meetings_61 : decode cX13_meetings 61 = .ok (.istore 6, 2) := by decide +kernel
theorem dX13_meetings_63 : decode cX13_meetings 63 = .ok (.iconst 0, 1) := by decide +kernel
theorem dX13_meetings_64 : decode cX13_meetings 64 = .ok (.istore 7, 2) := by decide +kernel
theorem dX13_meetings_66 : decode cX13_meetings 66 = .ok (.iload 7, 2) := by decide +kernel
theorem dX13_meetings_68 : decode cX13_meetings 68 = .ok (.aload_n 0, 1) := by decide +kernel
theorem dX13_meetings_69 : decode cX13_meetings 69 = .ok (.getfield 46, 3) := by decide +kernel
theorem dX13_meetings_72 : decode cX13_meetings 72 = .ok (.iload_n 1, 1) := by decide +kernel
theorem dX13_meetings_73 : decode cX13_meetings 73 = .ok (.iaload, 1) := by decide +kernel
theorem dX13_meetings_74 : decode cX13_meetings 74 = .ok (.if_icmp .ge 80, 3) := by decide +kernel
theorem dX13_meetings_77 : decode cX13_meetings 77 = .ok (.iconst 0, 1) := by decide +kernel
theorem dX13_meetings_78 : decode cX13_meetings 78 = .ok (.istore 8, 2) := by decide +kernel
theorem dX13_meetings_80 : decode cX13_meetings 80 = .ok (.iconst 0, 1) := by decide +kernel
theorem dX13_meetings_81 : decode cX13_meetings 81 = .ok (.istore 9, 2) := by decide +kernel
theorem dX13_meetings_83 : decode cX13_meetings 83 = .ok (.iload 9, 2) := by decide +kernel
theorem dX13_meetings_85 : decode cX13_meetings 85 = .ok (.aload_n 0, 1) := by decide +kernel
theorem dX13_meetings_86 : decode cX13_meetings 86 = .ok (.getfield 46, 3) := by decide +kernel
theorem dX13_meetings_89 : decode cX13_meetings 89 = .ok (.iload_n 2, 1) := by decide +kernel
theorem dX13_meetings_90 : decode cX13_meetings 90 = .ok (.iaload, 1) := by decide +kernel
theorem dX13_meetings_91 : decode cX13_meetings 91 = .ok (.if_icmp .ge 32, 3) := by decide +kernel
theorem dX13_meetings_94 : decode cX13_meetings 94 = .ok (.iload 8, 2) := by decide +kernel
theorem dX13_meetings_96 : decode cX13_meetings 96 = .ok (.aload_n 0, 1) := by decide +kernel
theorem dX13_meetings_97 : decode cX13_meetings 97 = .ok (.iload_n 1, 1) := by decide +kernel
theorem dX13_meetings_98 : decode cX13_meetings 98 = .ok (.iload 7, 2) := by decide +kernel
theorem dX13_meetings_100 : decode cX13_meetings 100 = .ok (.iload_n 2, 1) := by decide +kernel
theorem dX13_meetings_101 : decode cX13_meetings 101 = .ok (.iload 9, 2) := by decide +kernel
theorem dX13_meetings_103 : decode cX13_meetings 103 = .ok (.invokevirtual 450, 3) := by decide +kernel
theorem dX13_meetings_106 : decode cX13_meetings 106 = .ok (.ifCond .eq 7, 3) := by decide +kernel
theorem dX13_meetings_109 : decode cX13_meetings 109 = .ok (.iconst 1, 1) := by decide +kernel
theorem dX13_meetings_110 : decode cX13_meetings 110 = .ok (.goto 4, 3) := by decide +kernel
theorem dX13_meetings_113 : decode cX13_meetings 113 = .ok (.iconst 0, 1) := by decide +kernel
theorem dX13_meetings_114 : decode cX13_meetings 114 = .ok (.iadd, 1) := by decide +kernel
theorem dX13_meetings_115 : decode cX13_meetings 115 = .ok (.istore 8, 2) := by decide +kernel
theorem dX13_meetings_117 : decode cX13_meetings 117 = .ok (.iinc 9 1, 3) := by decide +kernel
theorem dX13_meetings_120 : decode cX13_meetings 120 = .ok (.goto (-37), 3) := by decide +kernel
theorem dX13_meetings_123 : decode cX13_meetings 123 = .ok (.iload 4, 2) := by decide +kernel
theorem dX13_meetings_125 : decode cX13_meetings 125 = .ok (.iload 8, 2) := by decide +kernel
theorem dX13_meetings_127 : decode cX13_meetings 127 = .ok (.iadd, 1) := by decide +kernel
theorem dX13_meetings_128 : decode cX13_meetings 128 = .ok (.istore 4, 2) := by decide +kernel
theorem dX13_meetings_130 : decode cX13_meetings 130 = .ok (.iload 8, 2) := by decide +kernel
theorem dX13_meetings_132 : decode cX13_meetings 132 = .ok (.iload 6, 2) := by decide +kernel
theorem dX13_meetings_134 : decode cX13_meetings 134 = .ok (.if_icmp .gt 6, 3) := by decide +kernel
theorem dX13_meetings_137 : decode cX13_meetings 137 = .ok (.goto 11, 3) := by decide +kernel
theorem dX13_meetings_140 : decode cX13_meetings 140 = .ok (.iload 7, 2) := by decide +kernel
theorem dX13_meetings_142 : decode cX13_meetings 142 = .ok (.istore 5, 2) := by decide +kernel
theorem dX13_meetings_144 : decode cX13_meetings 144 = .ok (.iload 8, 2) := by decide +kernel
theorem dX13_meetings_146 : decode cX13_meetings 146 = .ok (.istore 6, 2) := by decide +kernel
theorem dX13_meetings_148 : decode cX13_meetings 148 = .ok (.iinc 7 1, 3) := by decide +kernel
theorem dX13_meetings_151 : decode cX13_meetings 151 = .ok (.goto (-85), 3) := by decide +kernel
theorem dX13_meetings_154 : decode cX13_meetings 154 = .ok (.iload_n 3, 1) := by decide +kernel
theorem dX13_meetings_155 : decode cX13_meetings 155 = .ok (.ifCond .ne 8, 3) := by decide +kernel
theorem dX13_meetings_158 : decode cX13_meetings 158 = .ok (.iload 4, 2) := by decide +kernel
theorem dX13_meetings_160 : decode cX13_meetings 160 = .ok (.goto 5, 3) := by decide +kernel
theorem dX13_meetings_163 : decode cX13_meetings 163 = .ok (.iload 5, 2) := by decide +kernel
theorem dX13_meetings_165 : decode cX13_meetings 165 = .ok (.ireturn, 1) := by decide +kernel
theorem dX13_draw_0 : decode cX13_draw 0 = .ok (.aload_n 0, 1) := by decide +kernel
theorem dX13_draw_1 : decode cX13_draw 1 = .ok (.aload_n 0, 1) := by decide +kernel
theorem dX13_draw_2 : decode cX13_draw 2 = .ok (.getfield 454, 3) := by decide +kernel
theorem dX13_draw_5 : decode cX13_draw 5 = .ok (.ldc2_w 458, 3) := by decide +kernel
theorem dX13_draw_8 : decode cX13_draw 8 = .ok (.lmul, 1) := by decide +kernel
theorem dX13_draw_9 : decode cX13_draw 9 = .ok (.ldc2_w 460, 3) := by decide +kernel
theorem dX13_draw_12 : decode cX13_draw 12 = .ok (.ladd, 1) := by decide +kernel
theorem dX13_draw_13 : decode cX13_draw 13 = .ok (.putfield 454, 3) := by decide +kernel
theorem dX13_draw_16 : decode cX13_draw 16 = .ok (.aload_n 0, 1) := by decide +kernel
theorem dX13_draw_17 : decode cX13_draw 17 = .ok (.getfield 454, 3) := by decide +kernel
theorem dX13_draw_20 : decode cX13_draw 20 = .ok (.bipush 33, 2) := by decide +kernel
theorem dX13_draw_22 : decode cX13_draw 22 = .ok (.lushr, 1) := by decide +kernel
theorem dX13_draw_23 : decode cX13_draw 23 = .ok (.iload_n 1, 1) := by decide +kernel
theorem dX13_draw_24 : decode cX13_draw 24 = .ok (.i2l, 1) := by decide +kernel
theorem dX13_draw_25 : decode cX13_draw 25 = .ok (.lrem, 1) := by decide +kernel
theorem dX13_draw_26 : decode cX13_draw 26 = .ok (.l2i, 1) := by decide +kernel
theorem dX13_draw_27 : decode cX13_draw 27 = .ok (.ireturn, 1) := by decide +kernel
theorem dX13_drawnAt_0 : decode cX13_drawnAt 0 = .ok (.aload_n 0, 1) := by decide +kernel
theorem dX13_drawnAt_1 : decode cX13_drawnAt 1 = .ok (.iload_n 2, 1) := by decide +kernel
theorem dX13_drawnAt_2 : decode cX13_drawnAt 2 = .ok (.ifCond .eq 11, 3) := by decide +kernel
theorem dX13_drawnAt_5 : decode cX13_drawnAt 5 = .ok (.aload_n 0, 1) := by decide +kernel
theorem dX13_drawnAt_6 : decode cX13_drawnAt 6 = .ok (.iload_n 1, 1) := by decide +kernel
theorem dX13_drawnAt_7 : decode cX13_drawnAt 7 = .ok (.invokevirtual 358, 3) := by decide +kernel
theorem dX13_drawnAt_10 : decode cX13_drawnAt 10 = .ok (.goto 8, 3) := by decide +kernel
theorem dX13_drawnAt_13 : decode cX13_drawnAt 13 = .ok (.aload_n 0, 1) := by decide +kernel
theorem dX13_drawnAt_14 : decode cX13_drawnAt 14 = .ok (.iload_n 1, 1) := by decide +kernel
theorem dX13_drawnAt_15 : decode cX13_drawnAt 15 = .ok (.invokevirtual 329, 3) := by decide +kernel
theorem dX13_drawnAt_18 : decode cX13_drawnAt 18 = .ok (.invokevirtual 462, 3) := by decide +kernel
theorem dX13_drawnAt_21 : decode cX13_drawnAt 21 = .ok (.istore_n 3, 1) := by decide +kernel
theorem dX13_drawnAt_22 : decode cX13_drawnAt 22 = .ok (.iconst 0, 1) := by decide +kernel
theorem dX13_drawnAt_23 : decode cX13_drawnAt 23 = .ok (.istore 4, 2) := by decide +kernel
theorem dX13_drawnAt_25 : decode cX13_drawnAt 25 = .ok (.aload_n 0, 1) := by decide +kernel
theorem dX13_drawnAt_26 : decode cX13_drawnAt 26 = .ok (.getfield 56, 3) := by decide +kernel
theorem dX13_drawnAt_29 : decode cX13_drawnAt 29 = .ok (.iconst 4, 1) := by decide +kernel
theorem dX13_drawnAt_30 : decode cX13_drawnAt 30 = .ok (.iload_n 1, 1) := by decide +kernel
theorem dX13_drawnAt_31 : decode cX13_drawnAt 31 = .ok (.imul, 1) := by decide +kernel
theorem dX13_drawnAt_32 : decode cX13_drawnAt 32 = .ok (.iload 4, 2) := by decide +kernel
theorem dX13_drawnAt_34 : decode cX13_drawnAt 34 = .ok (.iadd, 1) := by decide +kernel
theorem dX13_drawnAt_35 : decode cX13_drawnAt 35 = .ok (.baload, 1) := by decide +kernel
theorem dX13_drawnAt_36 : decode cX13_drawnAt 36 = .ok (.ifCond .ne 7, 3) := by decide +kernel
theorem dX13_drawnAt_39 : decode cX13_drawnAt 39 = .ok (.iconst 0, 1) := by decide +kernel
theorem dX13_drawnAt_40 : decode cX13_drawnAt 40 = .ok (.goto 27, 3) := by decide +kernel
theorem dX13_drawnAt_43 : decode cX13_drawnAt 43 = .ok (.iload_n 2, 1) := by decide +kernel
theorem dX13_drawnAt_44 : decode cX13_drawnAt 44 = .ok (.ifCond .eq 22, 3) := by decide +kernel
theorem dX13_drawnAt_47 : decode cX13_drawnAt 47 = .ok (.aload_n 0, 1) := by decide +kernel
theorem dX13_drawnAt_48 : decode cX13_drawnAt 48 = .ok (.getfield 43, 3) := by decide +kernel
theorem dX13_drawnAt_51 : decode cX13_drawnAt 51 = .ok (.aload_n 0, 1) := by decide +kernel
theorem dX13_drawnAt_52 : decode cX13_drawnAt 52 = .ok (.aload_n 0, 1) := by decide +kernel
theorem dX13_drawnAt_53 : decode cX13_drawnAt 53 = .ok (.getfield 52, 3) := by decide +kernel
theorem dX13_drawnAt_56 : decode cX13_drawnAt 56 = .ok (.iload_n 1, 1) := by decide +kernel
theorem dX13_drawnAt_57 : decode cX13_drawnAt 57 = .ok (.iload 4, 2) := by decide +kernel
theorem dX13_drawnAt_59 : decode cX13_drawnAt 59 = .ok (.invokevirtual 262, 3) := by decide +kernel
theorem dX13_drawnAt_62 : decode cX13_drawnAt 62 = .ok (.iaload, 1) := by decide +kernel
theorem dX13_drawnAt_63 : decode cX13_drawnAt 63 = .ok (.goto 4, 3) := by decide +kernel
theorem dX13_drawnAt_66 : decode cX13_drawnAt 66 = .ok (.iconst 1, 1) := by decide +kernel
theorem dX13_drawnAt_67 : decode cX13_drawnAt 67 = .ok (.istore 5, 2) := by decide +kernel
theorem dX13_drawnAt_69 : decode cX13_drawnAt 69 = .ok (.iload_n 3, 1) := by decide +kernel
theorem dX13_drawnAt_70 : decode cX13_drawnAt 70 = .ok (.iload 5, 2) := by decide +kernel
theorem dX13_drawnAt_72 : decode cX13_drawnAt 72 = .ok (.if_icmp .ge 6, 3) := by decide +kernel
theorem dX13_drawnAt_75 : decode cX13_drawnAt 75 = .ok (.iload 4, 2) := by decide +kernel
theorem dX13_drawnAt_77 : decode cX13_drawnAt 77 = .ok (.ireturn, 1) := by decide +kernel
theorem dX13_drawnAt_78 : decode cX13_drawnAt 78 = .ok (.iload_n 3, 1) := by decide +kernel
theorem dX13_drawnAt_79 : decode cX13_drawnAt 79 = .ok (.iload 5, 2) := by decide +kernel
theorem dX13_drawnAt_81 : decode cX13_drawnAt 81 = .ok (.isub, 1) := by decide +kernel
theorem dX13_drawnAt_82 : decode cX13_drawnAt 82 = .ok (.istore_n 3, 1) := by decide +kernel
theorem dX13_drawnAt_83 : decode cX13_drawnAt 83 = .ok (.iinc 4 1, 3) := by decide +kernel
theorem dX13_drawnAt_86 : decode cX13_drawnAt 86 = .ok (.goto (-61), 3) := by decide +kernel
theorem dX13_goBirth_0 : decode cX13_goBirth 0 = .ok (.aload_n 0, 1) := by decide +kernel
theorem dX13_goBirth_1 : decode cX13_goBirth 1 = .ok (.getfield 49, 3) := by decide +kernel
theorem dX13_goBirth_4 : decode cX13_goBirth 4 = .ok (.aload_n 0, 1) := by decide +kernel
theorem dX13_goBirth_5 : decode cX13_goBirth 5 = .ok (.getfield 52, 3) := by decide +kernel
theorem dX13_goBirth_8 : decode cX13_goBirth 8 = .ok (.iaload, 1) := by decide +kernel
theorem dX13_goBirth_9 : decode cX13_goBirth 9 = .ok (.ifCond .ne 7, 3) := by decide +kernel
theorem dX13_goBirth_12 : decode cX13_goBirth 12 = .ok (.iconst 0, 1) := by decide +kernel
theorem dX13_goBirth_13 : decode cX13_goBirth 13 = .ok (.goto 5, 3) := by decide +kernel
theorem dX13_goBirth_16 : decode cX13_goBirth 16 = .ok (.bipush 100, 2) := by decide +kernel
theorem dX13_goBirth_18 : decode cX13_goBirth 18 = .ok (.istore_n 1, 1) := by decide +kernel
theorem dX13_goBirth_19 : decode cX13_goBirth 19 = .ok (.iload_n 1, 1) := by decide +kernel
theorem dX13_goBirth_20 : decode cX13_goBirth 20 = .ok (.bipush 100, 2) := by decide +kernel
theorem dX13_goBirth_22 : decode cX13_goBirth 22 = .ok (.if_icmp .lt 95, 3) := by decide +kernel
theorem dX13_goBirth_25 : decode cX13_goBirth 25 = .ok (.iload_n 1, 1) := by decide +kernel
theorem dX13_goBirth_26 : decode cX13_goBirth 26 = .ok (.bipush 100, 2) := by decide +kernel
theorem dX13_goBirth_28 : decode cX13_goBirth 28 = .ok (.isub, 1) := by decide +kernel
theorem dX13_goBirth_29 : decode cX13_goBirth 29 = .ok (.istore_n 2, 1) := by decide +kernel
theorem dX13_goBirth_30 : decode cX13_goBirth 30 = .ok (.aload_n 0, 1) := by decide +kernel
theorem dX13_goBirth_31 : decode cX13_goBirth 31 = .ok (.getfield 40, 3) := by decide +kernel
theorem dX13_goBirth_34 : decode cX13_goBirth 34 = .ok (.aload_n 0, 1) := by decide +kernel
theorem dX13_goBirth_35 : decode cX13_goBirth 35 = .ok (.aload_n 0, 1) := by decide +kernel
theorem dX13_goBirth_36 : decode cX13_goBirth 36 = .ok (.getfield 52, 3) := by decide +kernel
theorem dX13_goBirth_39 : decode cX13_goBirth 39 = .ok (.iload_n 2, 1) := by decide +kernel
theorem dX13_goBirth_40 : decode cX13_goBirth 40 = .ok (.invokevirtual 249, 3) := by decide +kernel
theorem dX13_goBirth_43 : decode cX13_goBirth 43 = .ok (.iconst 1, 1) := by decide +kernel
theorem dX13_goBirth_44 : decode cX13_goBirth 44 = .ok (.iadd, 1) := by decide +kernel
theorem dX13_goBirth_45 : decode cX13_goBirth 45 = .ok (.iaload, 1) := by decide +kernel
theorem dX13_goBirth_46 : decode cX13_goBirth 46 = .ok (.iconst 1, 1) := by decide +kernel
theorem dX13_goBirth_47 : decode cX13_goBirth 47 = .ok (.if_icmp .ne 7, 3) := by decide +kernel
theorem dX13_goBirth_50 : decode cX13_goBirth 50 = .ok (.iconst 1, 1) := by decide +kernel
theorem dX13_goBirth_51 : decode cX13_goBirth 51 = .ok (.goto 4, 3) := by decide +kernel
theorem dX13_goBirth_54 : decode cX13_goBirth 54 = .ok (.iconst 0, 1) := by decide +kernel
theorem dX13_goBirth_55 : decode cX13_goBirth 55 = .ok (.istore_n 3, 1) := by decide +kernel
theorem dX13_goBirth_56 : decode cX13_goBirth 56 = .ok (.iload_n 3, 1) := by decide +kernel
theorem dX13_goBirth_57 : decode cX13_goBirth 57 = .ok (.ifCond .eq 12, 3) := by decide +kernel
theorem dX13_goBirth_60 : decode cX13_goBirth 60 = .ok (.aload_n 0, 1) := by decide +kernel
theorem dX13_goBirth_61 : decode cX13_goBirth 61 = .ok (.iload_n 2, 1) := by decide +kernel
theorem dX13_goBirth_62 : decode cX13_goBirth 62 = .ok (.iconst 1, 1) := by decide +kernel
theorem dX13_goBirth_63 : decode cX13_goBirth 63 = .ok (.invokevirtual 465, 3) := by decide +kernel
theorem dX13_goBirth_66 : decode cX13_goBirth 66 = .ok (.goto 27, 3) := by decide +kernel
theorem dX13_goBirth_69 : decode cX13_goBirth 69 = .ok (.aload_n 0, 1) := by decide +kernel
theorem dX13_goBirth_70 : decode cX13_goBirth 70 = .ok (.getfield 60, 3) := by decide +kernel
theorem dX13_goBirth_73 : decode cX13_goBirth 73 = .ok (.iconst 0, 1) := by decide +kernel
theorem dX13_goBirth_74 : decode cX13_goBirth 74 = .ok (.iaload, 1) := by decide +kernel
theorem dX13_goBirth_75 : decode cX13_goBirth 75 = .ok (.iconst 3, 1) := by decide +kernel
theorem dX13_goBirth_76 : decode cX13_goBirth 76 = .ok (.if_icmp .ne 12, 3) := by decide +kernel
theorem dX13_goBirth_79 : decode cX13_goBirth 79 = .ok (.aload_n 0, 1) := by decide +kernel
theorem dX13_goBirth_80 : decode cX13_goBirth 80 = .ok (.iload_n 2, 1) := by decide +kernel
theorem dX13_goBirth_81 : decode cX13_goBirth 81 = .ok (.iconst 0, 1) := by decide +kernel
theorem dX13_goBirth_82 : decode cX13_goBirth 82 = .ok (.invokevirtual 465, 3) := by decide +kernel
theorem dX13_goBirth_85 : decode cX13_goBirth 85 = .ok (.goto 8, 3) := by decide +kernel
theorem dX13_goBirth_88 : decode cX13_goBirth 88 = .ok (.aload_n 0, 1) := by decide +kernel
theorem dX13_goBirth_89 : decode cX13_goBirth 89 = .ok (.iload_n 2, 1) := by decide +kernel
theorem dX13_goBirth_90 : decode cX13_goBirth 90 = .ok (.invokevirtual 361, 3) := by decide +kernel
theorem dX13_goBirth_93 : decode cX13_goBirth 93 = .ok (.istore 4, 2) := by decide +kernel
theorem dX13_goBirth_95 : decode cX13_goBirth 95 = .ok (.aload_n 0, 1) := by decide +kernel
theorem dX13_goBirth_96 : decode cX13_goBirth 96 = .ok (.getfield 43, 3) := by decide +kernel
theorem dX13_goBirth_99 : decode cX13_goBirth 99 = .ok (.aload_n 0, 1) := by decide +kernel
theorem dX13_goBirth_100 : decode cX13_goBirth 100 = .ok (.aload_n 0, 1) := by decide +kernel
theorem dX13_goBirth_101 : decode cX13_goBirth 101 = .ok (.getfield 52, 3) := by decide +kernel
theorem dX13_goBirth_104 : decode cX13_goBirth 104 = .ok (.iload_n 2, 1) := by decide +kernel
theorem dX13_goBirth_105 : decode cX13_goBirth 105 = .ok (.iload 4, 2) := by decide +kernel
theorem dX13_goBirth_107 : decode cX13_goBirth 107 = .ok (.invokevirtual 262, 3) := by decide +kernel
theorem dX13_goBirth_110 : decode cX13_goBirth 110 = .ok (.iconst 5, 1) := by decide +kernel
theorem dX13_goBirth_111 : decode cX13_goBirth 111 = .ok (.iadd, 1) := by decide +kernel
theorem dX13_goBirth_112 : decode cX13_goBirth 112 = .ok (.iaload, 1) := by decide +kernel
theorem dX13_goBirth_113 : decode cX13_goBirth 113 = .ok (.istore_n 1, 1) := by decide +kernel
theorem dX13_goBirth_114 : decode cX13_goBirth 114 = .ok (.goto (-95), 3) := by decide +kernel
theorem dX13_goBirth_117 : decode cX13_goBirth 117 = .ok (.iload_n 1, 1) := by decide +kernel
theorem dX13_goBirth_118 : decode cX13_goBirth 118 = .ok (.ireturn, 1) := by decide +kernel
theorem dX13_birthday_0 : decode cX13_birthday 0 = .ok (.aload_n 0, 1) := by decide +kernel
theorem dX13_birthday_1 : decode cX13_birthday 1 = .ok (.iconst 0, 1) := by decide +kernel
theorem dX13_birthday_2 : decode cX13_birthday 2 = .ok (.putfield 102, 3) := by decide +kernel
theorem dX13_birthday_5 : decode cX13_birthday 5 = .ok (.aload_n 0, 1) := by decide +kernel
theorem dX13_birthday_6 : decode cX13_birthday 6 = .ok (.getfield 52, 3) := by decide +kernel
theorem dX13_birthday_9 : decode cX13_birthday 9 = .ok (.iconst (-1), 1) := by decide +kernel
theorem dX13_birthday_10 : decode cX13_birthday 10 = .ok (.if_icmp .eq 12, 3) := by decide +kernel
theorem dX13_birthday_13 : decode cX13_birthday 13 = .ok (.aload_n 0, 1) := by decide +kernel
theorem dX13_birthday_14 : decode cX13_birthday 14 = .ok (.getfield 298, 3) := by decide +kernel
theorem dX13_birthday_17 : decode cX13_birthday 17 = .ok (.bipush 60, 2) := by decide +kernel
theorem dX13_birthday_19 : decode cX13_birthday 19 = .ok (.if_icmp .ne 5, 3) := by decide +kernel
theorem dX13_birthday_22 : decode cX13_birthday 22 = .ok (.iconst (-1), 1) := by decide +kernel
theorem dX13_birthday_23 : decode cX13_birthday 23 = .ok (.ireturn, 1) := by decide +kernel
theorem dX13_birthday_24 : decode cX13_birthday 24 = .ok (.aload_n 0, 1) := by decide +kernel
theorem dX13_birthday_25 : decode cX13_birthday 25 = .ok (.lload_n 1, 1) := by decide +kernel
theorem dX13_birthday_26 : decode cX13_birthday 26 = .ok (.putfield 454, 3) := by decide +kernel
theorem dX13_birthday_29 : decode cX13_birthday 29 = .ok (.aload_n 0, 1) := by decide +kernel
theorem dX13_birthday_30 : decode cX13_birthday 30 = .ok (.getfield 93, 3) := by decide +kernel
theorem dX13_birthday_33 : decode cX13_birthday 33 = .ok (.aload_n 0, 1) := by decide +kernel
theorem dX13_birthday_34 : decode cX13_birthday 34 = .ok (.getfield 298, 3) := by decide +kernel
theorem dX13_birthday_37 : decode cX13_birthday 37 = .ok (.aload_n 0, 1) := by decide +kernel
theorem dX13_birthday_38 : decode cX13_birthday 38 = .ok (.invokevirtual 469, 3) := by decide +kernel
theorem dX13_birthday_41 : decode cX13_birthday 41 = .ok (.iastore, 1) := by decide +kernel
theorem dX13_birthday_42 : decode cX13_birthday 42 = .ok (.aload_n 0, 1) := by decide +kernel
theorem dX13_birthday_43 : decode cX13_birthday 43 = .ok (.dup, 1) := by decide +kernel
theorem dX13_birthday_44 : decode cX13_birthday 44 = .ok (.getfield 298, 3) := by decide +kernel
theorem dX13_birthday_47 : decode cX13_birthday 47 = .ok (.iconst 1, 1) := by decide +kernel
theorem dX13_birthday_48 : decode cX13_birthday 48 = .ok (.iadd, 1) := by decide +kernel
theorem dX13_birthday_49 : decode cX13_birthday 49 = .ok (.putfield 298, 3) := by decide +kernel
theorem dX13_birthday_52 : decode cX13_birthday 52 = .ok (.aload_n 0, 1) := by decide +kernel
theorem dX13_birthday_53 : decode cX13_birthday 53 = .ok (.getfield 93, 3) := by decide +kernel
theorem dX13_birthday_56 : decode cX13_birthday 56 = .ok (.aload_n 0, 1) := by decide +kernel
theorem dX13_birthday_57 : decode cX13_birthday 57 = .ok (.getfield 298, 3) := by decide +kernel
theorem dX13_birthday_60 : decode cX13_birthday 60 = .ok (.iconst 1, 1) := by decide +kernel
theorem dX13_birthday_61 : decode cX13_birthday 61 = .ok (.isub, 1) := by decide +kernel
theorem dX13_birthday_62 : decode cX13_birthday 62 = .ok (.iaload, 1) := by decide +kernel
theorem dX13_birthday_63 : decode cX13_birthday 63 = .ok (.ireturn, 1) := by decide +kernel
theorem dX13_born_0 : decode cX13_born 0 = .ok (.aload_n 0, 1) := by decide +kernel
theorem dX13_born_1 : decode cX13_born 1 = .ok (.iconst 0, 1) := by decide +kernel
theorem dX13_born_2 : decode cX13_born 2 = .ok (.putfield 102, 3) := by decide +kernel
theorem dX13_born_5 : decode cX13_born 5 = .ok (.iload_n 1, 1) := by decide +kernel
theorem dX13_born_6 : decode cX13_born 6 = .ok (.i2l, 1) := by decide +kernel
theorem dX13_born_7 : decode cX13_born 7 = .ok (.lconst 0, 1) := by decide +kernel
theorem dX13_born_8 : decode cX13_born 8 = .ok (.aload_n 0, 1) := by decide +kernel
theorem dX13_born_9 : decode cX13_born 9 = .ok (.getfield 298, 3) := by decide +kernel
theorem dX13_born_12 : decode cX13_born 12 = .ok (.iconst 1, 1) := by decide +kernel
theorem dX13_born_13 : decode cX13_born 13 = .ok (.isub, 1) := by decide +kernel
theorem dX13_born_14 : decode cX13_born 14 = .ok (.i2l, 1) := by decide +kernel
theorem dX13_born_15 : decode cX13_born 15 = .ok (.invokestatic 231, 3) := by decide +kernel
theorem dX13_born_18 : decode cX13_born 18 = .ok (.ifCond .eq 12, 3) := by decide +kernel
theorem dX13_born_21 : decode cX13_born 21 = .ok (.aload_n 0, 1) := by decide +kernel
theorem dX13_born_22 : decode cX13_born 22 = .ok (.getfield 93, 3) := by decide +kernel
theorem dX13_born_25 : decode cX13_born 25 = .ok (.iload_n 1, 1) := by decide +kernel
theorem dX13_born_26 : decode cX13_born 26 = .ok (.iaload, 1) := by decide +kernel
theorem dX13_born_27 : decode cX13_born 27 = .ok (.goto 4, 3) := by decide +kernel
theorem dX13_born_30 : decode cX13_born 30 = .ok (.iconst (-1), 1) := by decide +kernel
theorem dX13_born_31 : decode cX13_born 31 = .ok (.ireturn, 1) := by decide +kernel
theorem dX13_take_0 : decode cX13_take 0 = .ok (.aload_n 0, 1) := by decide +kernel
theorem dX13_take_1 : decode cX13_take 1 = .ok (.iconst 0, 1) := by decide +kernel
theorem dX13_take_2 : decode cX13_take 2 = .ok (.putfield 102, 3) := by decide +kernel
theorem dX13_take_5 : decode cX13_take 5 = .ok (.aload_n 0, 1) := by decide +kernel
theorem dX13_take_6 : decode cX13_take 6 = .ok (.getfield 298, 3) := by decide +kernel
theorem dX13_take_9 : decode cX13_take 9 = .ok (.ifCond .ne 5, 3) := by decide +kernel
theorem dX13_take_12 : decode cX13_take 12 = .ok (.iconst (-1), 1) := by decide +kernel
theorem dX13_take_13 : decode cX13_take 13 = .ok (.ireturn, 1) := by decide +kernel
theorem dX13_take_14 : decode cX13_take 14 = .ok (.aload_n 0, 1) := by decide +kernel
theorem dX13_take_15 : decode cX13_take 15 = .ok (.dup, 1) := by decide +kernel
theorem dX13_take_16 : decode cX13_take 16 = .ok (.getfield 298, 3) := by decide +kernel
theorem dX13_take_19 : decode cX13_take 19 = .ok (.iconst 1, 1) := by decide +kernel
theorem dX13_take_20 : decode cX13_take 20 = .ok (.isub, 1) := by decide +kernel
theorem dX13_take_21 : decode cX13_take 21 = .ok (.putfield 298, 3) := by decide +kernel
theorem dX13_take_24 : decode cX13_take 24 = .ok (.aload_n 0, 1) := by decide +kernel
theorem dX13_take_25 : decode cX13_take 25 = .ok (.getfield 298, 3) := by decide +kernel
theorem dX13_take_28 : decode cX13_take 28 = .ok (.ireturn, 1) := by decide +kernel
theorem dX13_town_0 : decode cX13_town 0 = .ok (.aload_n 0, 1) := by decide +kernel
theorem dX13_town_1 : decode cX13_town 1 = .ok (.iconst 0, 1) := by decide +kernel
theorem dX13_town_2 : decode cX13_town 2 = .ok (.putfield 102, 3) := by decide +kernel
theorem dX13_town_5 : decode cX13_town 5 = .ok (.aload_n 0, 1) := by decide +kernel
theorem dX13_town_6 : decode cX13_town 6 = .ok (.iload 4, 2) := by decide +kernel
theorem dX13_town_8 : decode cX13_town 8 = .ok (.invokevirtual 313, 3) := by decide +kernel
theorem dX13_town_11 : decode cX13_town 11 = .ok (.ifCond .eq 15, 3) := by decide +kernel
theorem dX13_town_14 : decode cX13_town 14 = .ok (.iload_n 1, 1) := by decide +kernel
theorem dX13_town_15 : decode cX13_town 15 = .ok (.i2l, 1) := by decide +kernel
theorem dX13_town_16 : decode cX13_town 16 = .ok (.lconst 1, 1) := by decide +kernel
theorem dX13_town_17 : decode cX13_town 17 = .ok (.ldc2_w 438, 3) := by decide +kernel
theorem dX13_town_20 : decode cX13_town 20 = .ok (.invokestatic 231, 3) := by decide +kernel
theorem dX13_town_23 : decode cX13_town 23 = .ok (.ifCond .ne 5, 3) := by decide +kernel
theorem dX13_town_26 : decode cX13_town 26 = .ok (.iconst (-1), 1) := by decide +kernel
theorem dX13_town_27 : decode cX13_town 27 = .ok (.ireturn, 1) := by decide +kernel
theorem dX13_town_28 : decode cX13_town 28 = .ok (.aload_n 0, 1) := by decide +kernel
theorem dX13_town_29 : decode cX13_town 29 = .ok (.lload_n 2, 1) := by decide +kernel
theorem dX13_town_30 : decode cX13_town 30 = .ok (.putfield 454, 3) := by decide +kernel
theorem dX13_town_33 : decode cX13_town 33 = .ok (.iconst 0, 1) := by decide +kernel
theorem dX13_town_34 : decode cX13_town 34 = .ok (.istore 5, 2) := by decide +kernel
theorem dX13_town_36 : decode cX13_town 36 = .ok (.iconst 0, 1) := by decide +kernel
theorem dX13_town_37 : decode cX13_town 37 = .ok (.istore 6, 2) := by decide +kernel
theorem dX13_town_39 : decode cX13_town 39 = .ok (.iload 6, 2) := by decide +kernel
theorem dX13_town_41 : decode cX13_town 41 = .ok (.iload_n 1, 1) := by decide +kernel
theorem dX13_town_42 : decode cX13_town 42 = .ok (.if_icmp .ge 28, 3) := by decide +kernel
theorem dX13_town_45 : decode cX13_town 45 = .ok (.iload 5, 2) := by decide +kernel
theorem dX13_town_47 : decode cX13_town 47 = .ok (.aload_n 0, 1) := by decide +kernel
theorem dX13_town_48 : decode cX13_town 48 = .ok (.invokevirtual 469, 3) := by decide +kernel
theorem dX13_town_51 : decode cX13_town 51 = .ok (.iload 4, 2) := by decide +kernel
theorem dX13_town_53 : decode cX13_town 53 = .ok (.if_icmp .ne 7, 3) := by decide +kernel
theorem dX13_town_56 : decode cX13_town 56 = .ok (.iconst 1, 1) := by decide +kernel
theorem dX13_town_57 : decode cX13_town 57 = .ok (.goto 4, 3) := by decide +kernel
theorem dX13_town_60 : decode cX13_town 60 = .ok (.iconst 0, 1) := by decide +kernel
theorem dX13_town_61 : decode cX13_town 61 = .ok (.iadd, 1) := by decide +kernel
theorem dX13_town_62 : decode cX13_town 62 = .ok (.istore 5, 2) := by decide +kernel
theorem dX13_town_64 : decode cX13_town 64 = .ok (.iinc 6 1, 3) := by decide +kernel
theorem dX13_town_67 : decode cX13_town 67 = .ok (.goto (-28), 3) := by decide +kernel
theorem dX13_town_70 : decode cX13_town 70 = .ok (.iload 5, 2) := by decide +kernel
theorem dX13_town_72 : decode cX13_town 72 = .ok (.ireturn, 1) := by decide +kernel
theorem dX13_image_0 : decode cX13_image 0 = .ok (.aload_n 0, 1) := by decide +kernel
theorem dX13_image_1 : decode cX13_image 1 = .ok (.iconst 0, 1) := by decide +kernel
theorem dX13_image_2 : decode cX13_image 2 = .ok (.putfield 102, 3) := by decide +kernel
theorem dX13_image_5 : decode cX13_image 5 = .ok (.aload_n 0, 1) := by decide +kernel
theorem dX13_image_6 : decode cX13_image 6 = .ok (.getfield 52, 3) := by decide +kernel
theorem dX13_image_9 : decode cX13_image 9 = .ok (.iconst (-1), 1) := by decide +kernel
theorem dX13_image_10 : decode cX13_image 10 = .ok (.if_icmp .ne 5, 3) := by decide +kernel
theorem dX13_image_13 : decode cX13_image 13 = .ok (.iconst (-1), 1) := by decide +kernel
theorem dX13_image_14 : decode cX13_image 14 = .ok (.ireturn, 1) := by decide +kernel
theorem dX13_image_15 : decode cX13_image 15 = .ok (.iconst 0, 1) := by decide +kernel
theorem dX13_image_16 : decode cX13_image 16 = .ok (.istore_n 1, 1) := by decide +kernel
theorem dX13_image_17 : decode cX13_image 17 = .ok (.iload_n 1, 1) := by decide +kernel
theorem dX13_image_18 : decode cX13_image 18 = .ok (.bipush 72, 2) := by decide +kernel
theorem dX13_image_20 : decode cX13_image 20 = .ok (.if_icmp .ge 21, 3) := by decide +kernel
theorem dX13_image_23 : decode cX13_image 23 = .ok (.aload_n 0, 1) := by decide +kernel
theorem dX13_image_24 : decode cX13_image 24 = .ok (.getfield 96, 3) := by decide +kernel
theorem dX13_image_27 : decode cX13_image 27 = .ok (.iload_n 1, 1) := by decide +kernel
theorem dX13_image_28 : decode cX13_image 28 = .ok (.aload_n 0, 1) := by decide +kernel
theorem dX13_image_29 : decode cX13_image 29 = .ok (.getfield 56, 3) := by decide +kernel
theorem dX13_image_32 : decode cX13_image 32 = .ok (.iload_n 1, 1) := by decide +kernel
theorem dX13_image_33 : decode cX13_image 33 = .ok (.baload, 1) := by decide +kernel
theorem dX13_image_34 : decode cX13_image 34 = .ok (.bastore, 1) := by decide +kernel
theorem dX13_image_35 : decode cX13_image 35 = .ok (.iinc 1 1, 3) := by decide +kernel
theorem dX13_image_38 : decode cX13_image 38 = .ok (.goto (-21), 3) := by decide +kernel
theorem dX13_image_41 : decode cX13_image 41 = .ok (.iconst 0, 1) := by decide +kernel
theorem dX13_image_42 : decode cX13_image 42 = .ok (.istore_n 1, 1) := by decide +kernel
theorem dX13_image_43 : decode cX13_image 43 = .ok (.iload_n 1, 1) := by decide +kernel
theorem dX13_image_44 : decode cX13_image 44 = .ok (.iconst 4, 1) := by decide +kernel
theorem dX13_image_45 : decode cX13_image 45 = .ok (.if_icmp .ge 21, 3) := by decide +kernel
theorem dX13_image_48 : decode cX13_image 48 = .ok (.aload_n 0, 1) := by decide +kernel
theorem dX13_image_49 : decode cX13_image 49 = .ok (.getfield 99, 3) := by decide +kernel
theorem dX13_image_52 : decode cX13_image 52 = .ok (.iload_n 1, 1) := by decide +kernel
theorem dX13_image_53 : decode cX13_image 53 = .ok (.aload_n 0, 1) := by decide +kernel
theorem dX13_image_54 : decode cX13_image 54 = .ok (.getfield 60, 3) := by decide +kernel
theorem dX13_image_57 : decode cX13_image 57 = .ok (.iload_n 1, 1) := by decide +kernel
theorem dX13_image_58 : decode cX13_image 58 = .ok (.iaload, 1) := by decide +kernel
theorem dX13_image_59 : decode cX13_image 59 = .ok (.iastore, 1) := by decide +kernel
theorem dX13_image_60 : decode cX13_image 60 = .ok (.iinc 1 1, 3) := by decide +kernel
theorem dX13_image_63 : decode cX13_image 63 = .ok (.goto (-20), 3) := by decide +kernel
theorem dX13_image_66 : decode cX13_image 66 = .ok (.aload_n 0, 1) := by decide +kernel
theorem dX13_image_67 : decode cX13_image 67 = .ok (.iconst 1, 1) := by decide +kernel
theorem dX13_image_68 : decode cX13_image 68 = .ok (.putfield 301, 3) := by decide +kernel
theorem dX13_image_71 : decode cX13_image 71 = .ok (.aload_n 0, 1) := by decide +kernel
theorem dX13_image_72 : decode cX13_image 72 = .ok (.invokevirtual 410, 3) := by decide +kernel
theorem dX13_image_75 : decode cX13_image 75 = .ok (.invokestatic 413, 3) := by decide +kernel
theorem dX13_image_78 : decode cX13_image 78 = .ok (.ireturn, 1) := by decide +kernel
theorem dX13_back_0 : decode cX13_back 0 = .ok (.aload_n 0, 1) := by decide +kernel
theorem dX13_back_1 : decode cX13_back 1 = .ok (.iconst 0, 1) := by decide +kernel
theorem dX13_back_2 : decode cX13_back 2 = .ok (.putfield 102, 3) := by decide +kernel
theorem dX13_back_5 : decode cX13_back 5 = .ok (.aload_n 0, 1) := by decide +kernel
theorem dX13_back_6 : decode cX13_back 6 = .ok (.getfield 301, 3) := by decide +kernel
theorem dX13_back_9 : decode cX13_back 9 = .ok (.ifCond .ne 5, 3) := by decide +kernel
theorem dX13_back_12 : decode cX13_back 12 = .ok (.iconst (-1), 1) := by decide +kernel
theorem dX13_back_13 : decode cX13_back 13 = .ok (.ireturn, 1) := by decide +kernel
theorem dX13_back_14 : decode cX13_back 14 = .ok (.iconst 0, 1) := by decide +kernel
theorem dX13_back_15 : decode cX13_back 15 = .ok (.istore_n 1, 1) := by decide +kernel
theorem dX13_back_16 : decode cX13_back 16 = .ok (.iload_n 1, 1) := by decide +kernel
theorem dX13_back_17 : decode cX13_back 17 = .ok (.bipush 72, 2) := by decide +kernel
theorem dX13_back_19 : decode cX13_back 19 = .ok (.if_icmp .ge 21, 3) := by decide +kernel
theorem dX13_back_22 : decode cX13_back 22 = .ok (.aload_n 0, 1) := by decide +kernel
theorem dX13_back_23 : decode cX13_back 23 = .ok (.getfield 56, 3) := by decide +kernel
theorem dX13_back_26 : decode cX13_back 26 = .ok (.iload_n 1, 1) := by decide +kernel
theorem dX13_back_27 : decode cX13_back 27 = .ok (.aload_n 0, 1) := by decide +kernel
theorem dX13_back_28 : decode cX13_back 28 = .ok (.getfield 96, 3) := by decide +kernel
theorem dX13_back_31 : decode cX13_back 31 = .ok (.iload_n 1, 1) := by decide +kernel
theorem dX13_back_32 : decode cX13_back 32 = .ok (.baload, 1) := by decide +kernel
theorem dX13_back_33 : decode cX13_back 33 = .ok (.bastore, 1) := by decide +kernel
theorem dX13_back_34 : decode cX13_back 34 = .ok (.iinc 1 1, 3) := by decide +kernel
theorem dX13_back_37 : decode cX13_back 37 = .ok (.goto (-21), 3) := by decide +kernel
theorem dX13_back_40 : decode cX13_back 40 = .ok (.iconst 0, 1) := by decide +kernel
theorem dX13_back_41 : decode cX13_back 41 = .ok (.istore_n 1, 1) := by decide +kernel
theorem dX13_back_42 : decode cX13_back 42 = .ok (.iload_n 1, 1) := by decide +kernel
theorem dX13_back_43 : decode cX13_back 43 = .ok (.iconst 4, 1) := by decide +kernel
theorem dX13_back_44 : decode cX13_back 44 = .ok (.if_icmp .ge 21, 3) := by decide +kernel
theorem dX13_back_47 : decode cX13_back 47 = .ok (.aload_n 0, 1) := by decide +kernel
theorem dX13_back_48 : decode cX13_back 48 = .ok (.getfield 60, 3) := by decide +kernel
theorem dX13_back_51 : decode cX13_back 51 = .ok (.iload_n 1, 1) := by decide +kernel
theorem dX13_back_52 : decode cX13_back 52 = .ok (.aload_n 0, 1) := by decide +kernel
theorem dX13_back_53 : decode cX13_back 53 = .ok (.getfield 99, 3) := by decide +kernel
theorem dX13_back_56 : decode cX13_back 56 = .ok (.iload_n 1, 1) := by decide +kernel
theorem dX13_back_57 : decode cX13_back 57 = .ok (.iaload, 1) := by decide +kernel
theorem dX13_back_58 : decode cX13_back 58 = .ok (.iastore, 1) := by decide +kernel
theorem dX13_back_59 : decode cX13_back 59 = .ok (.iinc 1 1, 3) := by decide +kernel
theorem dX13_back_62 : decode cX13_back 62 = .ok (.goto (-20), 3) := by decide +kernel
theorem dX13_back_65 : decode cX13_back 65 = .ok (.aload_n 0, 1) := by decide +kernel
theorem dX13_back_66 : decode cX13_back 66 = .ok (.iconst 0, 1) := by decide +kernel
theorem dX13_back_67 : decode cX13_back 67 = .ok (.putfield 292, 3) := by decide +kernel
theorem dX13_back_70 : decode cX13_back 70 = .ok (.aload_n 0, 1) := by decide +kernel
theorem dX13_back_71 : decode cX13_back 71 = .ok (.invokevirtual 410, 3) := by decide +kernel
theorem dX13_back_74 : decode cX13_back 74 = .ok (.invokestatic 413, 3) := by decide +kernel
theorem dX13_back_77 : decode cX13_back 77 = .ok (.ireturn, 1) := by decide +kernel
theorem dX13_count_0 : decode cX13_count 0 = .ok (.aload_n 0, 1) := by decide +kernel
theorem dX13_count_1 : decode cX13_count 1 = .ok (.iconst 0, 1) := by decide +kernel
theorem dX13_count_2 : decode cX13_count 2 = .ok (.putfield 102, 3) := by decide +kernel
theorem dX13_count_5 : decode cX13_count 5 = .ok (.iload_n 1, 1) := by decide +kernel
theorem dX13_count_6 : decode cX13_count 6 = .ok (.tableswitch 179 0 13 #[70, 75, 80, 102, 124, 129, 134, 154, 154, 154, 154, 164, 169, 174], 70) := by decide +kernel
theorem dX13_count_76 : decode cX13_count 76 = .ok (.aload_n 0, 1) := by decide +kernel
theorem dX13_count_77 : decode cX13_count 77 = .ok (.getfield 281, 3) := by decide +kernel
theorem dX13_count_80 : decode cX13_count 80 = .ok (.ireturn, 1) := by decide +kernel
theorem dX13_count_81 : decode cX13_count 81 = .ok (.aload_n 0, 1) := by decide +kernel
theorem dX13_count_82 : decode cX13_count 82 = .ok (.getfield 52, 3) := by decide +kernel
theorem dX13_count_85 : decode cX13_count 85 = .ok (.ireturn, 1) := by decide +kernel
theorem dX13_count_86 : decode cX13_count 86 = .ok (.aload_n 0, 1) := by decide +kernel
theorem dX13_count_87 : decode cX13_count 87 = .ok (.getfield 52, 3) := by decide +kernel
theorem dX13_count_90 : decode cX13_count 90 = .ok (.iconst (-1), 1) := by decide +kernel
theorem dX13_count_91 : decode cX13_count 91 = .ok (.if_icmp .ne 7, 3) := by decide +kernel
theorem dX13_count_94 : decode cX13_count 94 = .ok (.iconst 0, 1) := by decide +kernel
theorem dX13_count_95 : decode cX13_count 95 = .ok (.goto 12, 3) := by decide +kernel
theorem dX13_count_98 : decode cX13_count 98 = .ok (.aload_n 0, 1) := by decide +kernel
theorem dX13_count_99 : decode cX13_count 99 = .ok (.getfield 46, 3) := by decide +kernel
theorem dX13_count_102 : decode cX13_count 102 = .ok (.aload_n 0, 1) := by decide +kernel
theorem dX13_count_103 : decode cX13_count 103 = .ok (.getfield 52, 3) := by decide +kernel
theorem dX13_count_106 : decode cX13_count 106 = .ok (.iaload, 1) := by decide +kernel
theorem dX13_count_107 : decode cX13_count 107 = .ok (.ireturn, 1) := by decide +kernel
theorem dX13_count_108 : decode cX13_count 108 = .ok (.aload_n 0, 1) := by decide +kernel
theorem dX13_count_109 : decode cX13_count 109 = .ok (.getfield 52, 3) := by decide +kernel
theorem dX13_count_112 : decode cX13_count 112 = .ok (.iconst (-1), 1) := by decide +kernel
theorem dX13_count_113 : decode cX13_count 113 = .ok (.if_icmp .ne 7, 3) := by decide +kernel
theorem dX13_count_116 : decode cX13_count 116 = .ok (.iconst 0, 1) := by decide +kernel
theorem dX13_count_117 : decode cX13_count 117 = .ok (.goto 12, 3) := by decide +kernel
theorem dX13_count_120 : decode cX13_count 120 = .ok (.aload_n 0, 1) := by decide +kernel
theorem dX13_count_121 : decode cX13_count 121 = .ok (.getfield 49, 3) := by decide +kernel
theorem dX13_count_124 : decode cX13_count 124 = .ok (.aload_n 0, 1) := by decide +kernel
theorem dX13_count_125 : decode cX13_count 125 = .ok (.getfield 52, 3) := by decide +kernel
theorem dX13_count_128 : decode cX13_count 128 = .ok (.iaload, 1) := by decide +kernel
theorem dX13_count_129 : decode cX13_count 129 = .ok (.ireturn, 1) := by decide +kernel
theorem dX13_count_130 : decode cX13_count 130 = .ok (.aload_n 0, 1) := by decide +kernel
theorem dX13_count_131 : decode cX13_count 131 = .ok (.getfield 284, 3) := by decide +kernel
theorem dX13_count_134 : decode cX13_count 134 = .ok (.ireturn, 1) := by decide +kernel
theorem dX13_count_135 : decode cX13_count 135 = .ok (.aload_n 0, 1) := by decide +kernel
theorem dX13_count_136 : decode cX13_count 136 = .ok (.getfield 115, 3) := by decide +kernel
theorem dX13_count_139 : decode cX13_count 139 = .ok (.ireturn, 1) := by decide +kernel
theorem dX13_count_140 : decode cX13_count 140 = .ok (.aload_n 0, 1) := by decide +kernel
theorem dX13_count_141 : decode cX13_count 141 = .ok (.getfield 52, 3) := by decide +kernel
theorem dX13_count_144 : decode cX13_count 144 = .ok (.iconst (-1), 1) := by decide +kernel
theorem dX13_count_145 : decode cX13_count 145 = .ok (.if_icmp .ne 7, 3) := by decide +kernel
theorem dX13_count_148 : decode cX13_count 148 = .ok (.iconst 0, 1) := by decide +kernel
theorem dX13_count_149 : decode cX13_count 149 = .ok (.goto 10, 3) := by decide +kernel
theorem dX13_count_152 : decode cX13_count 152 = .ok (.aload_n 0, 1) := by decide +kernel
theorem dX13_count_153 : decode cX13_count 153 = .ok (.invokevirtual 410, 3) := by decide +kernel
theorem dX13_count_156 : decode cX13_count 156 = .ok (.invokestatic 413, 3) := by decide +kernel
theorem dX13_count_159 : decode cX13_count 159 = .ok (.ireturn, 1) := by decide +kernel
theorem dX13_count_160 : decode cX13_count 160 = .ok (.aload_n 0, 1) := by decide +kernel
theorem dX13_count_161 : decode cX13_count 161 = .ok (.getfield 60, 3) := by decide +kernel
theorem dX13_count_164 : decode cX13_count 164 = .ok (.iload_n 1, 1) := by decide +kernel
theorem dX13_count_165 : decode cX13_count 165 = .ok (.bipush 7, 2) := by decide +kernel
theorem dX13_count_167 : decode cX13_count 167 = .ok (.isub, 1) := by decide +kernel
theorem dX13_count_168 : decode cX13_count 168 = .ok (.iaload, 1) := by decide +kernel
theorem dX13_count_169 : decode cX13_count 169 = .ok (.ireturn, 1) := by decide +kernel
theorem dX13_count_170 : decode cX13_count 170 = .ok (.aload_n 0, 1) := by decide +kernel
theorem dX13_count_171 : decode cX13_count 171 = .ok (.getfield 295, 3) := by decide +kernel
theorem dX13_count_174 : decode cX13_count 174 = .ok (.ireturn, 1) := by decide +kernel
theorem dX13_count_175 : decode cX13_count 175 = .ok (.aload_n 0, 1) := by decide +kernel
theorem dX13_count_176 : decode cX13_count 176 = .ok (.getfield 298, 3) := by decide +kernel
theorem dX13_count_179 : decode cX13_count 179 = .ok (.ireturn, 1) := by decide +kernel
theorem dX13_count_180 : decode cX13_count 180 = .ok (.aload_n 0, 1) := by decide +kernel
theorem dX13_count_181 : decode cX13_count 181 = .ok (.getfield 292, 3) := by decide +kernel
theorem dX13_count_184 : decode cX13_count 184 = .ok (.ireturn, 1) := by decide +kernel
theorem dX13_count_185 : decode cX13_count 185 = .ok (.ldc_w 376, 3) := by decide +kernel
theorem dX13_count_188 : decode cX13_count 188 = .ok (.ireturn, 1) := by decide +kernel
