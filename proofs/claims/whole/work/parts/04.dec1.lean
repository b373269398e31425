theorem dX0_init_0 : decode cX0_init 0 = .ok (.aload_n 0, 1) := by decide +kernel
theorem dX0_init_1 : decode cX0_init 1 = .ok (.invokespecial 3, 3) := by decide +kernel
theorem dX0_init_4 : decode cX0_init 4 = .ok (.aload_n 0, 1) := by decide +kernel
theorem dX0_init_5 : decode cX0_init 5 = .ok (.bipush 60, 2) := by decide +kernel
theorem dX0_init_7 : decode cX0_init 7 = .ok (.newarray .int, 2) := by decide +kernel
theorem dX0_init_9 : decode cX0_init 9 = .ok (.putfield 9, 3) := by decide +kernel
theorem dX0_init_12 : decode cX0_init 12 = .ok (.aload_n 0, 1) := by decide +kernel
theorem dX0_init_13 : decode cX0_init 13 = .ok (.aload_n 1, 1) := by decide +kernel
theorem dX0_init_14 : decode cX0_init 14 = .ok (.putfield 15, 3) := by decide +kernel
theorem dX0_init_17 : decode cX0_init 17 = .ok (.return_, 1) := by decide +kernel
theorem dX0_putBy_0 : decode cX0_putBy 0 = .ok (.aload_n 0, 1) := by decide +kernel
theorem dX0_putBy_1 : decode cX0_putBy 1 = .ok (.getfield 19, 3) := by decide +kernel
theorem dX0_putBy_4 : decode cX0_putBy 4 = .ok (.bipush 60, 2) := by decide +kernel
theorem dX0_putBy_6 : decode cX0_putBy 6 = .ok (.if_icmp .lt 5, 3) := by decide +kernel
theorem dX0_putBy_9 : decode cX0_putBy 9 = .ok (.iconst (-1), 1) := by decide +kernel
theorem dX0_putBy_10 : decode cX0_putBy 10 = .ok (.ireturn, 1) := by decide +kernel
theorem dX0_putBy_11 : decode cX0_putBy 11 = .ok (.aload_n 0, 1) := by decide +kernel
theorem dX0_putBy_12 : decode cX0_putBy 12 = .ok (.lload_n 1, 1) := by decide +kernel
theorem dX0_putBy_13 : decode cX0_putBy 13 = .ok (.putfield 23, 3) := by decide +kernel
theorem dX0_putBy_16 : decode cX0_putBy 16 = .ok (.aload_n 0, 1) := by decide +kernel
theorem dX0_putBy_17 : decode cX0_putBy 17 = .ok (.getfield 9, 3) := by decide +kernel
theorem dX0_putBy_20 : decode cX0_putBy 20 = .ok (.aload_n 0, 1) := by decide +kernel
theorem dX0_putBy_21 : decode cX0_putBy 21 = .ok (.getfield 19, 3) := by decide +kernel
theorem dX0_putBy_24 : decode cX0_putBy 24 = .ok (.aload_n 0, 1) := by decide +kernel
theorem dX0_putBy_25 : decode cX0_putBy 25 = .ok (.invokevirtual 27, 3) := by decide +kernel
theorem dX0_putBy_28 : decode cX0_putBy 28 = .ok (.iastore, 1) := by decide +kernel
theorem dX0_putBy_29 : decode cX0_putBy 29 = .ok (.aload_n 0, 1) := by decide +kernel
theorem dX0_putBy_30 : decode cX0_putBy 30 = .ok (.dup, 1) := by decide +kernel
theorem dX0_putBy_31 : decode cX0_putBy 31 = .ok (.getfield 19, 3) := by decide +kernel
theorem dX0_putBy_34 : decode cX0_putBy 34 = .ok (.iconst 1, 1) := by decide +kernel
theorem dX0_putBy_35 : decode cX0_putBy 35 = .ok (.iadd, 1) := by decide +kernel
theorem dX0_putBy_36 : decode cX0_putBy 36 = .ok (.putfield 19, 3) := by decide +kernel
theorem dX0_putBy_39 : decode cX0_putBy 39 = .ok (.aload_n 0, 1) := by decide +kernel
theorem dX0_putBy_40 : decode cX0_putBy 40 = .ok (.getfield 9, 3) := by decide +kernel
theorem dX0_putBy_43 : decode cX0_putBy 43 = .ok (.aload_n 0, 1) := by decide +kernel
theorem dX0_putBy_44 : decode cX0_putBy 44 = .ok (.getfield 19, 3) := by decide +kernel
theorem dX0_putBy_47 : decode cX0_putBy 47 = .ok (.iconst 1, 1) := by decide +kernel
theorem dX0_putBy_48 : decode cX0_putBy 48 = .ok (.isub, 1) := by decide +kernel
theorem dX0_putBy_49 : decode cX0_putBy 49 = .ok (.iaload, 1) := by decide +kernel
theorem dX0_putBy_50 : decode cX0_putBy 50 = .ok (.ireturn, 1) := by decide +kernel
theorem dX0_howMany_0 : decode cX0_howMany 0 = .ok (.aload_n 0, 1) := by decide +kernel
theorem dX0_howMany_1 : decode cX0_howMany 1 = .ok (.lload_n 2, 1) := by decide +kernel
theorem dX0_howMany_2 : decode cX0_howMany 2 = .ok (.putfield 23, 3) := by decide +kernel
theorem dX0_howMany_5 : decode cX0_howMany 5 = .ok (.iconst 0, 1) := by decide +kernel
theorem dX0_howMany_6 : decode cX0_howMany 6 = .ok (.istore 5, 2) := by decide +kernel
theorem dX0_howMany_8 : decode cX0_howMany 8 = .ok (.iconst 0, 1) := by decide +kernel
theorem dX0_howMany_9 : decode cX0_howMany 9 = .ok (.istore 6, 2) := by decide +kernel
theorem dX0_howMany_11 : decode cX0_howMany 11 = .ok (.iload 6, 2) := by decide +kernel
theorem dX0_howMany_13 : decode cX0_howMany 13 = .ok (.iload_n 1, 1) := by decide +kernel
theorem dX0_howMany_14 : decode cX0_howMany 14 = .ok (.if_icmp .ge 28, 3) := by decide +kernel
theorem dX0_howMany_17 : decode cX0_howMany 17 = .ok (.iload 5, 2) := by decide +kernel
theorem dX0_howMany_19 : decode cX0_howMany 19 = .ok (.aload_n 0, 1) := by decide +kernel
theorem dX0_howMany_20 : decode cX0_howMany 20 = .ok (.invokevirtual 27, 3) := by decide +kernel
theorem dX0_howMany_23 : decode cX0_howMany 23 = .ok (.iload 4, 2) := by decide +kernel
theorem dX0_howMany_25 : decode cX0_howMany 25 = .ok (.if_icmp .ne 7, 3) := by decide +kernel
theorem dX0_howMany_28 : decode cX0_howMany 28 = .ok (.iconst 1, 1) := by decide +kernel
theorem dX0_howMany_29 : decode cX0_howMany 29 = .ok (.goto 4, 3) := by decide +kernel
theorem dX0_howMany_32 : decode cX0_howMany 32 = .ok (.iconst 0, 1) := by decide +kernel
theorem dX0_howMany_33 : decode cX0_howMany 33 = .ok (.iadd, 1) := by decide +kernel
theorem dX0_howMany_34 : decode cX0_howMany 34 = .ok (.istore 5, 2) := by decide +kernel
theorem dX0_howMany_36 : decode cX0_howMany 36 = .ok (.iinc 6 1, 3) := by decide +kernel
theorem dX0_howMany_39 : decode cX0_howMany 39 = .ok (.goto (-28), 3) := by decide +kernel
theorem dX0_howMany_42 : decode cX0_howMany 42 = .ok (.iload 5, 2) := by decide +kernel
theorem dX0_howMany_44 : decode cX0_howMany 44 = .ok (.ireturn, 1) := by decide +kernel
theorem dX0_draw_0 : decode cX0_draw 0 = .ok (.aload_n 0, 1) := by decide +kernel
theorem dX0_draw_1 : decode cX0_draw 1 = .ok (.aload_n 0, 1) := by decide +kernel
theorem dX0_draw_2 : decode cX0_draw 2 = .ok (.getfield 23, 3) := by decide +kernel
theorem dX0_draw_5 : decode cX0_draw 5 = .ok (.ldc2_w 31, 3) := by decide +kernel
theorem dX0_draw_8 : decode cX0_draw 8 = .ok (.lmul, 1) := by decide +kernel
theorem dX0_draw_9 : decode cX0_draw 9 = .ok (.ldc2_w 33, 3) := by decide +kernel
theorem dX0_draw_12 : decode cX0_draw 12 = .ok (.ladd, 1) := by decide +kernel
theorem dX0_draw_13 : decode cX0_draw 13 = .ok (.putfield 23, 3) := by decide +kernel
theorem dX0_draw_16 : decode cX0_draw 16 = .ok (.iload_n 1, 1) := by decide +kernel
theorem dX0_draw_17 : decode cX0_draw 17 = .ok (.ifCond .gt 7, 3) := by decide +kernel
theorem dX0_draw_20 : decode cX0_draw 20 = .ok (.iconst 0, 1) := by decide +kernel
theorem dX0_draw_21 : decode cX0_draw 21 = .ok (.goto 14, 3) := by decide +kernel
theorem dX0_draw_24 : decode cX0_draw 24 = .ok (.aload_n 0, 1) := by decide +kernel
theorem dX0_draw_25 : decode cX0_draw 25 = .ok (.getfield 23, 3) := by decide +kernel
theorem dX0_draw_28 : decode cX0_draw 28 = .ok (.bipush 33, 2) := by decide +kernel
theorem dX0_draw_30 : decode cX0_draw 30 = .ok (.lushr, 1) := by decide +kernel
theorem dX0_draw_31 : decode cX0_draw 31 = .ok (.iload_n 1, 1) := by decide +kernel
theorem dX0_draw_32 : decode cX0_draw 32 = .ok (.i2l, 1) := by decide +kernel
theorem dX0_draw_33 : decode cX0_draw 33 = .ok (.lrem, 1) := by decide +kernel
theorem dX0_draw_34 : decode cX0_draw 34 = .ok (.l2i, 1) := by decide +kernel
theorem dX0_draw_35 : decode cX0_draw 35 = .ok (.ireturn, 1) := by decide +kernel
theorem dX0_drawnSelf_0 : decode cX0_drawnSelf 0 = .ok (.aload_n 0, 1) := by decide +kernel
theorem dX0_drawnSelf_1 : decode cX0_drawnSelf 1 = .ok (.getfield 15, 3) := by decide +kernel
theorem dX0_drawnSelf_4 : decode cX0_drawnSelf 4 = .ok (.getfield 35, 3) := by decide +kernel
theorem dX0_drawnSelf_7 : decode cX0_drawnSelf 7 = .ok (.astore_n 1, 1) := by decide +kernel
theorem dX0_drawnSelf_8 : decode cX0_drawnSelf 8 = .ok (.aload_n 1, 1) := by decide +kernel
theorem dX0_drawnSelf_9 : decode cX0_drawnSelf 9 = .ok (.getfield 41, 3) := by decide +kernel
theorem dX0_drawnSelf_12 : decode cX0_drawnSelf 12 = .ok (.ifCond .ne 7, 3) := by decide +kernel
theorem dX0_drawnSelf_15 : decode cX0_drawnSelf 15 = .ok (.iconst 0, 1) := by decide +kernel
theorem dX0_drawnSelf_16 : decode cX0_drawnSelf 16 = .ok (.goto 5, 3) := by decide +kernel
theorem dX0_drawnSelf_19 : decode cX0_drawnSelf 19 = .ok (.bipush 100, 2) := by decide +kernel
theorem dX0_drawnSelf_21 : decode cX0_drawnSelf 21 = .ok (.istore_n 2, 1) := by decide +kernel
theorem dX0_drawnSelf_22 : decode cX0_drawnSelf 22 = .ok (.iconst 0, 1) := by decide +kernel
theorem dX0_drawnSelf_23 : decode cX0_drawnSelf 23 = .ok (.istore_n 3, 1) := by decide +kernel
theorem dX0_drawnSelf_24 : decode cX0_drawnSelf 24 = .ok (.iload_n 3, 1) := by decide +kernel
theorem dX0_drawnSelf_25 : decode cX0_drawnSelf 25 = .ok (.bipush 6, 2) := by decide +kernel
theorem dX0_drawnSelf_27 : decode cX0_drawnSelf 27 = .ok (.if_icmp .ge 53, 3) := by decide +kernel
theorem dX0_drawnSelf_30 : decode cX0_drawnSelf 30 = .ok (.iload_n 2, 1) := by decide +kernel
theorem dX0_drawnSelf_31 : decode cX0_drawnSelf 31 = .ok (.bipush 100, 2) := by decide +kernel
theorem dX0_drawnSelf_33 : decode cX0_drawnSelf 33 = .ok (.if_icmp .lt 47, 3) := by decide +kernel
theorem dX0_drawnSelf_36 : decode cX0_drawnSelf 36 = .ok (.iload_n 2, 1) := by decide +kernel
theorem dX0_drawnSelf_37 : decode cX0_drawnSelf 37 = .ok (.bipush 100, 2) := by decide +kernel
theorem dX0_drawnSelf_39 : decode cX0_drawnSelf 39 = .ok (.isub, 1) := by decide +kernel
theorem dX0_drawnSelf_40 : decode cX0_drawnSelf 40 = .ok (.istore 4, 2) := by decide +kernel
theorem dX0_drawnSelf_42 : decode cX0_drawnSelf 42 = .ok (.aload_n 0, 1) := by decide +kernel
theorem dX0_drawnSelf_43 : decode cX0_drawnSelf 43 = .ok (.iload 4, 2) := by decide +kernel
theorem dX0_drawnSelf_45 : decode cX0_drawnSelf 45 = .ok (.invokevirtual 46, 3) := by decide +kernel
theorem dX0_drawnSelf_48 : decode cX0_drawnSelf 48 = .ok (.istore 5, 2) := by decide +kernel
theorem dX0_drawnSelf_50 : decode cX0_drawnSelf 50 = .ok (.aload_n 1, 1) := by decide +kernel
theorem dX0_drawnSelf_51 : decode cX0_drawnSelf 51 = .ok (.iload 4, 2) := by decide +kernel
theorem dX0_drawnSelf_53 : decode cX0_drawnSelf 53 = .ok (.iload 5, 2) := by decide +kernel
theorem dX0_drawnSelf_55 : decode cX0_drawnSelf 55 = .ok (.invokevirtual 50, 3) := by decide +kernel
theorem dX0_drawnSelf_58 : decode cX0_drawnSelf 58 = .ok (.ifCond .eq 14, 3) := by decide +kernel
theorem dX0_drawnSelf_61 : decode cX0_drawnSelf 61 = .ok (.aload_n 1, 1) := by decide +kernel
theorem dX0_drawnSelf_62 : decode cX0_drawnSelf 62 = .ok (.iload 4, 2) := by decide +kernel
theorem dX0_drawnSelf_64 : decode cX0_drawnSelf 64 = .ok (.iload 5, 2) := by decide +kernel
theorem dX0_drawnSelf_66 : decode cX0_drawnSelf 66 = .ok (.invokevirtual 54, 3) := by decide +kernel
theorem dX0_drawnSelf_69 : decode cX0_drawnSelf 69 = .ok (.goto 4, 3) := by decide +kernel
theorem dX0_drawnSelf_72 : decode cX0_drawnSelf 72 = .ok (.iconst (-1), 1) := by decide +kernel
theorem dX0_drawnSelf_73 : decode cX0_drawnSelf 73 = .ok (.istore_n 2, 1) := by decide +kernel
theorem dX0_drawnSelf_74 : decode cX0_drawnSelf 74 = .ok (.iinc 3 1, 3) := by decide +kernel
theorem dX0_drawnSelf_77 : decode cX0_drawnSelf 77 = .ok (.goto (-53), 3) := by decide +kernel
theorem dX0_drawnSelf_80 : decode cX0_drawnSelf 80 = .ok (.iload_n 2, 1) := by decide +kernel
theorem dX0_drawnSelf_81 : decode cX0_drawnSelf 81 = .ok (.ireturn, 1) := by decide +kernel
theorem dX0_drawnBranch_0 : decode cX0_drawnBranch 0 = .ok (.aload_n 0, 1) := by decide +kernel
theorem dX0_drawnBranch_1 : decode cX0_drawnBranch 1 = .ok (.getfield 15, 3) := by decide +kernel
theorem dX0_drawnBranch_4 : decode cX0_drawnBranch 4 = .ok (.getfield 35, 3) := by decide +kernel
theorem dX0_drawnBranch_7 : decode cX0_drawnBranch 7 = .ok (.astore_n 2, 1) := by decide +kernel
theorem dX0_drawnBranch_8 : decode cX0_drawnBranch 8 = .ok (.aload_n 0, 1) := by decide +kernel
theorem dX0_drawnBranch_9 : decode cX0_drawnBranch 9 = .ok (.getfield 15, 3) := by decide +kernel
theorem dX0_drawnBranch_12 : decode cX0_drawnBranch 12 = .ok (.iload_n 1, 1) := by decide +kernel
theorem dX0_drawnBranch_13 : decode cX0_drawnBranch 13 = .ok (.invokevirtual 58, 3) := by decide +kernel
theorem dX0_drawnBranch_16 : decode cX0_drawnBranch 16 = .ok (.istore_n 3, 1) := by decide +kernel
theorem dX0_drawnBranch_17 : decode cX0_drawnBranch 17 = .ok (.aload_n 2, 1) := by decide +kernel
theorem dX0_drawnBranch_18 : decode cX0_drawnBranch 18 = .ok (.getfield 61, 3) := by decide +kernel
theorem dX0_drawnBranch_21 : decode cX0_drawnBranch 21 = .ok (.iload_n 1, 1) := by decide +kernel
theorem dX0_drawnBranch_22 : decode cX0_drawnBranch 22 = .ok (.iaload, 1) := by decide +kernel
theorem dX0_drawnBranch_23 : decode cX0_drawnBranch 23 = .ok (.iconst 1, 1) := by decide +kernel
theorem dX0_drawnBranch_24 : decode cX0_drawnBranch 24 = .ok (.if_icmp .ne 21, 3) := by decide +kernel
theorem dX0_drawnBranch_27 : decode cX0_drawnBranch 27 = .ok (.aload_n 0, 1) := by decide +kernel
theorem dX0_drawnBranch_28 : decode cX0_drawnBranch 28 = .ok (.iload_n 1, 1) := by decide +kernel
theorem dX0_drawnBranch_29 : decode cX0_drawnBranch 29 = .ok (.iload_n 3, 1) := by decide +kernel
theorem dX0_drawnBranch_30 : decode cX0_drawnBranch 30 = .ok (.aload_n 0, 1) := by decide +kernel
theorem dX0_drawnBranch_31 : decode cX0_drawnBranch 31 = .ok (.aload_n 2, 1) := by decide +kernel
theorem dX0_drawnBranch_32 : decode cX0_drawnBranch 32 = .ok (.iload_n 1, 1) := by decide +kernel
theorem dX0_drawnBranch_33 : decode cX0_drawnBranch 33 = .ok (.iload_n 3, 1) := by decide +kernel
theorem dX0_drawnBranch_34 : decode cX0_drawnBranch 34 = .ok (.invokevirtual 64, 3) := by decide +kernel
theorem dX0_drawnBranch_37 : decode cX0_drawnBranch 37 = .ok (.invokevirtual 67, 3) := by decide +kernel
theorem dX0_drawnBranch_40 : decode cX0_drawnBranch 40 = .ok (.iconst 1, 1) := by decide +kernel
theorem dX0_drawnBranch_41 : decode cX0_drawnBranch 41 = .ok (.invokevirtual 70, 3) := by decide +kernel
theorem dX0_drawnBranch_44 : decode cX0_drawnBranch 44 = .ok (.ireturn, 1) := by decide +kernel
theorem dX0_drawnBranch_45 : decode cX0_drawnBranch 45 = .ok (.aload_n 0, 1) := by decide +kernel
theorem dX0_drawnBranch_46 : decode cX0_drawnBranch 46 = .ok (.getfield 15, 3) := by decide +kernel
theorem dX0_drawnBranch_49 : decode cX0_drawnBranch 49 = .ok (.getfield 74, 3) := by decide +kernel
theorem dX0_drawnBranch_52 : decode cX0_drawnBranch 52 = .ok (.getfield 78, 3) := by decide +kernel
theorem dX0_drawnBranch_55 : decode cX0_drawnBranch 55 = .ok (.iconst 0, 1) := by decide +kernel
theorem dX0_drawnBranch_56 : decode cX0_drawnBranch 56 = .ok (.iaload, 1) := by decide +kernel
theorem dX0_drawnBranch_57 : decode cX0_drawnBranch 57 = .ok (.iconst 3, 1) := by decide +kernel
theorem dX0_drawnBranch_58 : decode cX0_drawnBranch 58 = .ok (.if_icmp .ne 19, 3) := by decide +kernel
theorem dX0_drawnBranch_61 : decode cX0_drawnBranch 61 = .ok (.aload_n 0, 1) := by decide +kernel
theorem dX0_drawnBranch_62 : decode cX0_drawnBranch 62 = .ok (.iload_n 1, 1) := by decide +kernel
theorem dX0_drawnBranch_63 : decode cX0_drawnBranch 63 = .ok (.iload_n 3, 1) := by decide +kernel
theorem dX0_drawnBranch_64 : decode cX0_drawnBranch 64 = .ok (.aload_n 0, 1) := by decide +kernel
theorem dX0_drawnBranch_65 : decode cX0_drawnBranch 65 = .ok (.iload_n 3, 1) := by decide +kernel
theorem dX0_drawnBranch_66 : decode cX0_drawnBranch 66 = .ok (.invokestatic 83, 3) := by decide +kernel
theorem dX0_drawnBranch_69 : decode cX0_drawnBranch 69 = .ok (.invokevirtual 67, 3) := by decide +kernel
theorem dX0_drawnBranch_72 : decode cX0_drawnBranch 72 = .ok (.iconst 0, 1) := by decide +kernel
theorem dX0_drawnBranch_73 : decode cX0_drawnBranch 73 = .ok (.invokevirtual 70, 3) := by decide +kernel
theorem dX0_drawnBranch_76 : decode cX0_drawnBranch 76 = .ok (.ireturn, 1) := by decide +kernel
theorem dX0_drawnBranch_77 : decode cX0_drawnBranch 77 = .ok (.aload_n 0, 1) := by decide +kernel
theorem dX0_drawnBranch_78 : decode cX0_drawnBranch 78 = .ok (.getfield 15, 3) := by decide +kernel
theorem dX0_drawnBranch_81 : decode cX0_drawnBranch 81 = .ok (.iload_n 1, 1) := by decide +kernel
theorem dX0_drawnBranch_82 : decode cX0_drawnBranch 82 = .ok (.iload_n 3, 1) := by decide +kernel
theorem dX0_drawnBranch_83 : decode cX0_drawnBranch 83 = .ok (.invokevirtual 88, 3) := by decide +kernel
theorem dX0_drawnBranch_86 : decode cX0_drawnBranch 86 = .ok (.ireturn, 1) := by decide +kernel
theorem dX0_branchAt_0 : decode cX0_branchAt 0 = .ok (.iload_n 3, 1) := by decide +kernel
theorem dX0_branchAt_1 : decode cX0_branchAt 1 = .ok (.istore 5, 2) := by decide +kernel
theorem dX0_branchAt_3 : decode cX0_branchAt 3 = .ok (.iconst 0, 1) := by decide +kernel
theorem dX0_branchAt_4 : decode cX0_branchAt 4 = .ok (.istore 6, 2) := by decide +kernel
theorem dX0_branchAt_6 : decode cX0_branchAt 6 = .ok (.iload 6, 2) := by decide +kernel
theorem dX0_branchAt_8 : decode cX0_branchAt 8 = .ok (.aload_n 0, 1) := by decide +kernel
theorem dX0_branchAt_9 : decode cX0_branchAt 9 = .ok (.getfield 15, 3) := by decide +kernel
theorem dX0_branchAt_12 : decode cX0_branchAt 12 = .ok (.getfield 35, 3) := by decide +kernel
theorem dX0_branchAt_15 : decode cX0_branchAt 15 = .ok (.getfield 91, 3) := by decide +kernel
theorem dX0_branchAt_18 : decode cX0_branchAt 18 = .ok (.iload_n 1, 1) := by decide +kernel
theorem dX0_branchAt_19 : decode cX0_branchAt 19 = .ok (.iaload, 1) := by decide +kernel
theorem dX0_branchAt_20 : decode cX0_branchAt 20 = .ok (.if_icmp .ge 54, 3) := by decide +kernel
theorem dX0_branchAt_23 : decode cX0_branchAt 23 = .ok (.iload_n 2, 1) := by decide +kernel
theorem dX0_branchAt_24 : decode cX0_branchAt 24 = .ok (.iload 6, 2) := by decide +kernel
theorem dX0_branchAt_26 : decode cX0_branchAt 26 = .ok (.ishr, 1) := by decide +kernel
theorem dX0_branchAt_27 : decode cX0_branchAt 27 = .ok (.iconst 1, 1) := by decide +kernel
theorem dX0_branchAt_28 : decode cX0_branchAt 28 = .ok (.iand, 1) := by decide +kernel
theorem dX0_branchAt_29 : decode cX0_branchAt 29 = .ok (.iconst 1, 1) := by decide +kernel
theorem dX0_branchAt_30 : decode cX0_branchAt 30 = .ok (.if_icmp .ne 38, 3) := by decide +kernel
theorem dX0_branchAt_33 : decode cX0_branchAt 33 = .ok (.iload 5, 2) := by decide +kernel
theorem dX0_branchAt_35 : decode cX0_branchAt 35 = .ok (.iload 4, 2) := by decide +kernel
theorem dX0_branchAt_37 : decode cX0_branchAt 37 = .ok (.ifCond .eq 19, 3) := by decide +kernel
theorem dX0_branchAt_40 : decode cX0_branchAt 40 = .ok (.aload_n 0, 1) := by decide +kernel
theorem dX0_branchAt_41 : decode cX0_branchAt 41 = .ok (.getfield 15, 3) := by decide +kernel
theorem dX0_branchAt_44 : decode cX0_branchAt 44 = .ok (.getfield 35, 3) := by decide +kernel
theorem dX0_branchAt_47 : decode cX0_branchAt 47 = .ok (.iload_n 1, 1) := by decide +kernel
theorem dX0_branchAt_48 : decode cX0_branchAt 48 = .ok (.iload 6, 2) := by decide +kernel
theorem dX0_branchAt_50 : decode cX0_branchAt 50 = .ok (.invokevirtual 94, 3) := by decide +kernel
theorem dX0_branchAt_53 : decode cX0_branchAt 53 = .ok (.goto 4, 3) := by decide +kernel
theorem dX0_branchAt_56 : decode cX0_branchAt 56 = .ok (.iconst 1, 1) := by decide +kernel
theorem dX0_branchAt_57 : decode cX0_branchAt 57 = .ok (.isub, 1) := by decide +kernel
theorem dX0_branchAt_58 : decode cX0_branchAt 58 = .ok (.istore 5, 2) := by decide +kernel
theorem dX0_branchAt_60 : decode cX0_branchAt 60 = .ok (.iload 5, 2) := by decide +kernel
theorem dX0_branchAt_62 : decode cX0_branchAt 62 = .ok (.ifCond .ge 6, 3) := by decide +kernel
theorem dX0_branchAt_65 : decode cX0_branchAt 65 = .ok (.iload 6, 2) := by decide +kernel
theorem dX0_branchAt_67 : decode cX0_branchAt 67 = .ok (.ireturn, 1) := by decide +kernel
theorem dX0_branchAt_68 : decode cX0_branchAt 68 = .ok (.iinc 6 1, 3) := by decide +kernel
theorem dX0_branchAt_71 : decode cX0_branchAt 71 = .ok (.goto (-65), 3) := by decide +kernel
theorem dX0_branchAt_74 : decode cX0_branchAt 74 = .ok (.iconst (-1), 1) := by decide +kernel
theorem dX0_branchAt_75 : decode cX0_branchAt 75 = .ok (.ireturn, 1) := by decide +kernel
theorem dX1_init_0 : decode cX1_init 0 = .ok (.aload_n 0, 1) := by decide +kernel
theorem dX1_init_1 : decode cX1_init 1 = .ok (.invokespecial 3, 3) := by decide +kernel
theorem dX1_init_4 : decode cX1_init 4 = .ok (.aload_n 0, 1) := by decide +kernel
theorem dX1_init_5 : decode cX1_init 5 = .ok (.bipush 12, 2) := by decide +kernel
theorem dX1_init_7 : decode cX1_init 7 = .ok (.newarray .int, 2) := by decide +kernel
theorem dX1_init_9 : decode cX1_init 9 = .ok (.putfield 9, 3) := by decide +kernel
theorem dX1_init_12 : decode cX1_init 12 = .ok (.aload_n 0, 1) := by decide +kernel
theorem dX1_init_13 : decode cX1_init 13 = .ok (.bipush 12, 2) := by decide +kernel
theorem dX1_init_15 : decode cX1_init 15 = .ok (.newarray .int, 2) := by decide +kernel
theorem dX1_init_17 : decode cX1_init 17 = .ok (.putfield 15, 3) := by decide +kernel
theorem dX1_init_20 : decode cX1_init 20 = .ok (.aload_n 0, 1) := by decide +kernel
theorem dX1_init_21 : decode cX1_init 21 = .ok (.bipush 6, 2) := by decide +kernel
theorem dX1_init_23 : decode cX1_init 23 = .ok (.newarray .int, 2) := by decide +kernel
theorem dX1_init_25 : decode cX1_init 25 = .ok (.putfield 18, 3) := by decide +kernel
theorem dX1_init_28 : decode cX1_init 28 = .ok (.aload_n 0, 1) := by decide +kernel
theorem dX1_init_29 : decode cX1_init 29 = .ok (.bipush 6, 2) := by decide +kernel
theorem dX1_init_31 : decode cX1_init 31 = .ok (.bipush 12, 2) := by decide +kernel
theorem dX1_init_33 : decode cX1_init 33 = .ok (.multianewarray 21 2, 4) := by decide +kernel
theorem dX1_init_37 : decode cX1_init 37 = .ok (.putfield 23, 3) := by decide +kernel
theorem dX1_init_40 : decode cX1_init 40 = .ok (.aload_n 0, 1) := by decide +kernel
theorem dX1_init_41 : decode cX1_init 41 = .ok (.aload_n 1, 1) := by decide +kernel
theorem dX1_init_42 : decode cX1_init 42 = .ok (.putfield 26, 3) := by decide +kernel
theorem dX1_init_45 : decode cX1_init 45 = .ok (.aload_n 0, 1) := by decide +kernel
theorem dX1_init_46 : decode cX1_init 46 = .ok (.aload_n 2, 1) := by decide +kernel
theorem dX1_init_47 : decode cX1_init 47 = .ok (.putfield 30, 3) := by decide +kernel
theorem dX1_init_50 : decode cX1_init 50 = .ok (.return_, 1) := by decide +kernel
theorem dX1_shares_0 : decode cX1_shares 0 = .ok (.aload_n 0, 1) := by decide +kernel
theorem dX1_shares_1 : decode cX1_shares 1 = .ok (.getfield 26, 3) := by decide +kernel
theorem dX1_shares_4 : decode cX1_shares 4 = .ok (.iload_n 1, 1) := by decide +kernel
theorem dX1_shares_5 : decode cX1_shares 5 = .ok (.invokevirtual 34, 3) := by decide +kernel
theorem dX1_shares_8 : decode cX1_shares 8 = .ok (.ifCond .eq 29, 3) := by decide +kernel
theorem dX1_shares_11 : decode cX1_shares 11 = .ok (.aload_n 0, 1) := by decide +kernel
theorem dX1_shares_12 : decode cX1_shares 12 = .ok (.getfield 26, 3) := by decide +kernel
theorem dX1_shares_15 : decode cX1_shares 15 = .ok (.iload_n 1, 1) := by decide +kernel
theorem dX1_shares_16 : decode cX1_shares 16 = .ok (.invokevirtual 40, 3) := by decide +kernel
theorem dX1_shares_19 : decode cX1_shares 19 = .ok (.ifCond .eq 14, 3) := by decide +kernel
theorem dX1_shares_22 : decode cX1_shares 22 = .ok (.aload_n 0, 1) := by decide +kernel
theorem dX1_shares_23 : decode cX1_shares 23 = .ok (.getfield 26, 3) := by decide +kernel
theorem dX1_shares_26 : decode cX1_shares 26 = .ok (.iconst 2, 1) := by decide +kernel
theorem dX1_shares_27 : decode cX1_shares 27 = .ok (.invokevirtual 43, 3) := by decide +kernel
theorem dX1_shares_30 : decode cX1_shares 30 = .ok (.ifCond .eq 7, 3) := by decide +kernel
theorem dX1_shares_33 : decode cX1_shares 33 = .ok (.iconst 1, 1) := by decide +kernel
theorem dX1_shares_34 : decode cX1_shares 34 = .ok (.goto 4, 3) := by decide +kernel
theorem dX1_shares_37 : decode cX1_shares 37 = .ok (.iconst 0, 1) := by decide +kernel
theorem dX1_shares_38 : decode cX1_shares 38 = .ok (.ireturn, 1) := by decide +kernel
theorem dX1_weigh_0 : decode cX1_weigh 0 = .ok (.aload_n 0, 1) := by decide +kernel
theorem dX1_weigh_1 : decode cX1_weigh 1 = .ok (.getfield 30, 3) := by decide +kernel
theorem dX1_weigh_4 : decode cX1_weigh 4 = .ok (.invokevirtual 46, 3) := by decide +kernel
theorem dX1_weigh_7 : decode cX1_weigh 7 = .ok (.lconst 0, 1) := by decide +kernel
theorem dX1_weigh_8 : decode cX1_weigh 8 = .ok (.lstore_n 1, 1) := by decide +kernel
theorem dX1_weigh_9 : decode cX1_weigh 9 = .ok (.iconst 0, 1) := by decide +kernel
theorem dX1_weigh_10 : decode cX1_weigh 10 = .ok (.istore_n 3, 1) := by decide +kernel
theorem dX1_weigh_11 : decode cX1_weigh 11 = .ok (.iload_n 3, 1) := by decide +kernel
theorem dX1_weigh_12 : decode cX1_weigh 12 = .ok (.aload_n 0, 1) := by decide +kernel
theorem dX1_weigh_13 : decode cX1_weigh 13 = .ok (.getfield 26, 3) := by decide +kernel
theorem dX1_weigh_16 : decode cX1_weigh 16 = .ok (.getfield 51, 3) := by decide +kernel
theorem dX1_weigh_19 : decode cX1_weigh 19 = .ok (.getfield 55, 3) := by decide +kernel
theorem dX1_weigh_22 : decode cX1_weigh 22 = .ok (.if_icmp .ge 50, 3) := by decide +kernel
theorem dX1_weigh_25 : decode cX1_weigh 25 = .ok (.aload_n 0, 1) := by decide +kernel
theorem dX1_weigh_26 : decode cX1_weigh 26 = .ok (.getfield 9, 3) := by decide +kernel
theorem dX1_weigh_29 : decode cX1_weigh 29 = .ok (.iload_n 3, 1) := by decide +kernel
theorem dX1_weigh_30 : decode cX1_weigh 30 = .ok (.aload_n 0, 1) := by decide +kernel
theorem dX1_weigh_31 : decode cX1_weigh 31 = .ok (.iload_n 3, 1) := by decide +kernel
theorem dX1_weigh_32 : decode cX1_weigh 32 = .ok (.invokevirtual 61, 3) := by decide +kernel
theorem dX1_weigh_35 : decode cX1_weigh 35 = .ok (.ifCond .eq 19, 3) := by decide +kernel
theorem dX1_weigh_38 : decode cX1_weigh 38 = .ok (.iconst 1, 1) := by decide +kernel
theorem dX1_weigh_39 : decode cX1_weigh 39 = .ok (.aload_n 0, 1) := by decide +kernel
theorem dX1_weigh_40 : decode cX1_weigh 40 = .ok (.getfield 30, 3) := by decide +kernel
theorem dX1_weigh_43 : decode cX1_weigh 43 = .ok (.iload_n 3, 1) := by decide +kernel
theorem dX1_weigh_44 : decode cX1_weigh 44 = .ok (.invokevirtual 64, 3) := by decide +kernel
theorem dX1_weigh_47 : decode cX1_weigh 47 = .ok (.bipush 100, 2) := by decide +kernel
theorem dX1_weigh_49 : decode cX1_weigh 49 = .ok (.idiv, 1) := by decide +kernel
theorem dX1_weigh_50 : decode cX1_weigh 50 = .ok (.iadd, 1) := by decide +kernel
theorem dX1_weigh_51 : decode cX1_weigh 51 = .ok (.goto 4, 3) := by decide +kernel
theorem dX1_weigh_54 : decode cX1_weigh 54 = .ok (.iconst 0, 1) := by decide +kernel
theorem dX1_weigh_55 : decode cX1_weigh 55 = .ok (.iastore, 1) := by decide +kernel
theorem dX1_weigh_56 : decode cX1_weigh 56 = .ok (.lload_n 1, 1) := by decide +kernel
theorem dX1_weigh_57 : decode cX1_weigh 57 = .ok (.aload_n 0, 1) := by decide +kernel
theorem dX1_weigh_58 : decode cX1_weigh 58 = .ok (.getfield 9, 3) := by decide +kernel
theorem dX1_weigh_61 : decode cX1_weigh 61 = .ok (.iload_n 3, 1) := by decide +kernel
theorem dX1_weigh_62 : decode cX1_weigh 62 = .ok (.iaload, 1) := by decide +kernel
theorem dX1_weigh_63 : decode cX1_weigh 63 = .ok (.i2l, 1) := by decide +kernel
theorem dX1_weigh_64 : decode cX1_weigh 64 = .ok (.ladd, 1) := by decide +kernel
theorem dX1_weigh_65 : decode cX1_weigh 65 = .ok (.lstore_n 1, 1) := by decide +kernel
theorem dX1_weigh_66 : decode cX1_weigh 66 = .ok (.iinc 3 1, 3) := by decide +kernel
theorem dX1_weigh_69 : decode cX1_weigh 69 = .ok (.goto (-58), 3) := by decide +kernel
theorem dX1_weigh_72 : decode cX1_weigh 72 = .ok (.lload_n 1, 1) := by decide +kernel
theorem dX1_weigh_73 : decode cX1_weigh 73 = .ok (.lreturn, 1) := by decide +kernel
theorem dX1_shareOf_0 : decode cX1_shareOf 0 = .ok (.aload_n 0, 1) := by decide +kernel
theorem dX1_shareOf_1 : decode cX1_shareOf 1 = .ok (.invokevirtual 68, 3) := by decide +kernel
theorem dX1_shareOf_4 : decode cX1_shareOf 4 = .ok (.lstore_n 3, 1) := by decide +kernel
theorem dX1_shareOf_5 : decode cX1_shareOf 5 = .ok (.lload_n 3, 1) := by decide +kernel
theorem dX1_shareOf_6 : decode cX1_shareOf 6 = .ok (.lconst 0, 1) := by decide +kernel
theorem dX1_shareOf_7 : decode cX1_shareOf 7 = .ok (.lcmp, 1) := by decide +kernel
theorem dX1_shareOf_8 : decode cX1_shareOf 8 = .ok (.ifCond .ne 5, 3) := by decide +kernel
theorem dX1_shareOf_11 : decode cX1_shareOf 11 = .ok (.iconst (-1), 1) := by decide +kernel
theorem dX1_shareOf_12 : decode cX1_shareOf 12 = .ok (.ireturn, 1) := by decide +kernel
theorem dX1_shareOf_13 : decode cX1_shareOf 13 = .ok (.iload_n 2, 1) := by decide +kernel
theorem dX1_shareOf_14 : decode cX1_shareOf 14 = .ok (.i2l, 1) := by decide +kernel
theorem dX1_shareOf_15 : decode cX1_shareOf 15 = .ok (.lstore 5, 2) := by decide +kernel
theorem dX1_shareOf_17 : decode cX1_shareOf 17 = .ok (.iconst 0, 1) := by decide +kernel
theorem dX1_shareOf_18 : decode cX1_shareOf 18 = .ok (.istore 7, 2) := by decide +kernel
theorem dX1_shareOf_20 : decode cX1_shareOf 20 = .ok (.iconst 0, 1) := by decide +kernel
theorem dX1_shareOf_21 : decode cX1_shareOf 21 = .ok (.istore 8, 2) := by decide +kernel
theorem dX1_shareOf_23 : decode cX1_shareOf 23 = .ok (.iload 8, 2) := by decide +kernel
theorem dX1_shareOf_25 : decode cX1_shareOf 25 = .ok (.aload_n 0, 1) := by decide +kernel
theorem dX1_shareOf_26 : decode cX1_shareOf 26 = .ok (.getfield 26, 3) := by decide +kernel
theorem dX1_shareOf_29 : decode cX1_shareOf 29 = .ok (.getfield 51, 3) := by decide +kernel
theorem dX1_shareOf_32 : decode cX1_shareOf 32 = .ok (.getfield 55, 3) := by decide +kernel
theorem dX1_shareOf_35 : decode cX1_shareOf 35 = .ok (.if_icmp .ge 53, 3) := by decide +kernel
theorem dX1_shareOf_38 : decode cX1_shareOf 38 = .ok (.lload 5, 2) := by decide +kernel
theorem dX1_shareOf_40 : decode cX1_shareOf 40 = .ok (.iload_n 2, 1) := by decide +kernel
theorem dX1_shareOf_41 : decode cX1_shareOf 41 = .ok (.i2l, 1) := by decide +kernel
theorem dX1_shareOf_42 : decode cX1_shareOf 42 = .ok (.aload_n 0, 1) := by decide +kernel
theorem dX1_shareOf_43 : decode cX1_shareOf 43 = .ok (.getfield 9, 3) := by decide +kernel
theorem dX1_shareOf_46 : decode cX1_shareOf 46 = .ok (.iload 8, 2) := by decide +kernel
theorem dX1_shareOf_48 : decode cX1_shareOf 48 = .ok (.iaload, 1) := by decide +kernel
theorem dX1_shareOf_49 : decode cX1_shareOf 49 = .ok (.i2l, 1) := by decide +kernel
theorem dX1_shareOf_50 : decode cX1_shareOf 50 = .ok (.lmul, 1) := by decide +kernel
theorem dX1_shareOf_51 : decode cX1_shareOf 51 = .ok (.lload_n 3, 1) := by decide +kernel
theorem dX1_shareOf_52 : decode cX1_shareOf 52 = .ok (.ldiv, 1) := by decide +kernel
theorem dX1_shareOf_53 : decode cX1_shareOf 53 = .ok (.lsub, 1) := by decide +kernel
theorem dX1_shareOf_54 : decode cX1_shareOf 54 = .ok (.lstore 5, 2) := by decide +kernel
theorem dX1_shareOf_56 : decode cX1_shareOf 56 = .ok (.iload 7, 2) := by decide +kernel
theorem dX1_shareOf_58 : decode cX1_shareOf 58 = .ok (.iload 8, 2) := by decide +kernel
theorem dX1_shareOf_60 : decode cX1_shareOf 60 = .ok (.iload_n 1, 1) := by decide +kernel
theorem dX1_shareOf_61 : decode cX1_shareOf 61 = .ok (.if_icmp .ge 17, 3) := by decide +kernel
theorem dX1_shareOf_64 : decode cX1_shareOf 64 = .ok (.aload_n 0, 1) := by decide +kernel
theorem dX1_shareOf_65 : decode cX1_shareOf 65 = .ok (.getfield 9, 3) := by decide +kernel
theorem dX1_shareOf_68 : decode cX1_shareOf 68 = .ok (.iload 8, 2) := by decide +kernel
theorem dX1_shareOf_70 : decode cX1_shareOf 70 = .ok (.iaload, 1) := by decide +kernel
theorem dX1_shareOf_71 : decode cX1_shareOf 71 = .ok (.ifCond .le 7, 3) := by decide +kernel
theorem dX1_shareOf_74 : decode cX1_shareOf 74 = .ok (.iconst 1, 1) := by decide +kernel
theorem dX1_shareOf_75 : decode cX1_shareOf 75 = .ok (.goto 4, 3) := by decide +kernel
theorem dX1_shareOf_78 : decode cX1_shareOf 78 = .ok (.iconst 0, 1) := by decide +kernel
theorem dX1_shareOf_79 : decode cX1_shareOf 79 = .ok (.iadd, 1) := by decide +kernel
theorem dX1_shareOf_80 : decode cX1_shareOf 80 = .ok (.istore 7, 2) := by decide +kernel
theorem dX1_shareOf_82 : decode cX1_shareOf 82 = .ok (.iinc 8 1, 3) := by decide +kernel
theorem dX1_shareOf_85 : decode cX1_shareOf 85 = .ok (.goto (-62), 3) := by decide +kernel
theorem dX1_shareOf_88 : decode cX1_shareOf 88 = .ok (.aload_n 0, 1) := by decide +kernel
theorem dX1_shareOf_89 : decode cX1_shareOf 89 = .ok (.getfield 9, 3) := by decide +kernel
theorem dX1_shareOf_92 : decode cX1_shareOf 92 = .ok (.iload_n 1, 1) := by decide +kernel
theorem dX1_shareOf_93 : decode cX1_shareOf 93 = .ok (.iaload, 1) := by decide +kernel
theorem dX1_shareOf_94 : decode cX1_shareOf 94 = .ok (.ifCond .le 16, 3) := by decide +kernel
theorem dX1_shareOf_97 : decode cX1_shareOf 97 = .ok (.iload 7, 2) := by decide +kernel
theorem dX1_shareOf_99 : decode cX1_shareOf 99 = .ok (.i2l, 1) := by decide +kernel
theorem dX1_shareOf_100 : decode cX1_shareOf 100 = .ok (.lload 5, 2) := by decide +kernel
theorem dX1_shareOf_102 : decode cX1_shareOf 102 = .ok (.lcmp, 1) := by decide +kernel
theorem dX1_shareOf_103 : decode cX1_shareOf 103 = .ok (.ifCond .ge 7, 3) := by decide +kernel
theorem dX1_shareOf_106 : decode cX1_shareOf 106 = .ok (.iconst 1, 1) := by decide +kernel
theorem dX1_shareOf_107 : decode cX1_shareOf 107 = .ok (.goto 4, 3) := by decide +kernel
theorem dX1_shareOf_110 : decode cX1_shareOf 110 = .ok (.iconst 0, 1) := by decide +kernel
theorem dX1_shareOf_111 : decode cX1_shareOf 111 = .ok (.istore 8, 2) := by decide +kernel
theorem dX1_shareOf_113 : decode cX1_shareOf 113 = .ok (.iload_n 2, 1) := by decide +kernel
theorem dX1_shareOf_114 : decode cX1_shareOf 114 = .ok (.i2l, 1) := by decide +kernel
theorem dX1_shareOf_115 : decode cX1_shareOf 115 = .ok (.aload_n 0, 1) := by decide +kernel
theorem dX1_shareOf_116 : decode cX1_shareOf 116 = .ok (.getfield 9, 3) := by decide +kernel
theorem dX1_shareOf_119 : decode cX1_shareOf 119 = .ok (.iload_n 1, 1) := by decide +kernel
theorem dX1_shareOf_120 : decode cX1_shareOf 120 = .ok (.iaload, 1) := by decide +kernel
theorem dX1_shareOf_121 : decode cX1_shareOf 121 = .ok (.i2l, 1) := by decide +kernel
theorem dX1_shareOf_122 : decode cX1_shareOf 122 = .ok (.lmul, 1) := by decide +kernel
theorem dX1_shareOf_123 : decode cX1_shareOf 123 = .ok (.lload_n 3, 1) := by decide +kernel
theorem dX1_shareOf_124 : decode cX1_shareOf 124 = .ok (.ldiv, 1) := by decide +kernel
theorem dX1_shareOf_125 : decode cX1_shareOf 125 = .ok (.l2i, 1) := by decide +kernel
theorem dX1_shareOf_126 : decode cX1_shareOf 126 = .ok (.iload 8, 2) := by decide +kernel
theorem dX1_shareOf_128 : decode cX1_shareOf 128 = .ok (.iadd, 1) := by decide +kernel
theorem dX1_shareOf_129 : decode cX1_shareOf 129 = .ok (.ireturn, 1) := by decide +kernel
theorem dX1_demandOf_0 : decode cX1_demandOf 0 = .ok (.aload_n 0, 1) := by decide +kernel
theorem dX1_demandOf_1 : decode cX1_demandOf 1 = .ok (.getfield 26, 3) := by decide +kernel
theorem dX1_demandOf_4 : decode cX1_demandOf 4 = .ok (.getfield 51, 3) := by decide +kernel
theorem dX1_demandOf_7 : decode cX1_demandOf 7 = .ok (.getfield 72, 3) := by decide +kernel
theorem dX1_demandOf_10 : decode cX1_demandOf 10 = .ok (.iload_n 1, 1) := by decide +kernel
theorem dX1_demandOf_11 : decode cX1_demandOf 11 = .ok (.aaload, 1) := by decide +kernel
theorem dX1_demandOf_12 : decode cX1_demandOf 12 = .ok (.astore_n 2, 1) := by decide +kernel
theorem dX1_demandOf_13 : decode cX1_demandOf 13 = .ok (.aload_n 0, 1) := by decide +kernel
theorem dX1_demandOf_14 : decode cX1_demandOf 14 = .ok (.iload_n 1, 1) := by decide +kernel
theorem dX1_demandOf_15 : decode cX1_demandOf 15 = .ok (.invokevirtual 61, 3) := by decide +kernel
theorem dX1_demandOf_18 : decode cX1_demandOf 18 = .ok (.ifCond .eq 19, 3) := by decide +kernel
theorem dX1_demandOf_21 : decode cX1_demandOf 21 = .ok (.aload_n 2, 1) := by decide +kernel
theorem dX1_demandOf_22 : decode cX1_demandOf 22 = .ok (.iconst 0, 1) := by decide +kernel
theorem dX1_demandOf_23 : decode cX1_demandOf 23 = .ok (.iaload, 1) := by decide +kernel
theorem dX1_demandOf_24 : decode cX1_demandOf 24 = .ok (.bipush 10, 2) := by decide +kernel
theorem dX1_demandOf_26 : decode cX1_demandOf 26 = .ok (.aload_n 2, 1) := by decide +kernel
theorem dX1_demandOf_27 : decode cX1_demandOf 27 = .ok (.iconst 5, 1) := by decide +kernel
theorem dX1_demandOf_28 : decode cX1_demandOf 28 = .ok (.iaload, 1) := by decide +kernel
theorem dX1_demandOf_29 : decode cX1_demandOf 29 = .ok (.isub, 1) := by decide +kernel
theorem dX1_demandOf_30 : decode cX1_demandOf 30 = .ok (.imul, 1) := by decide +kernel
theorem dX1_demandOf_31 : decode cX1_demandOf 31 = .ok (.bipush 10, 2) := by decide +kernel
theorem dX1_demandOf_33 : decode cX1_demandOf 33 = .ok (.idiv, 1) := by decide +kernel
theorem dX1_demandOf_34 : decode cX1_demandOf 34 = .ok (.goto 4, 3) := by decide +kernel
theorem dX1_demandOf_37 : decode cX1_demandOf 37 = .ok (.iconst 0, 1) := by decide +kernel
theorem dX1_demandOf_38 : decode cX1_demandOf 38 = .ok (.ireturn, 1) := by decide +kernel
theorem dX1_demands_0 : decode cX1_demands 0 = .ok (.iconst 0, 1) := by decide +kernel
theorem dX1_demands_1 : decode cX1_demands 1 = .ok (.istore_n 1, 1) := by decide +kernel
theorem dX1_demands_2 : decode cX1_demands 2 = .ok (.iconst 0, 1) := by decide +kernel
theorem dX1_demands_3 : decode cX1_demands 3 = .ok (.istore_n 2, 1) := by decide +kernel
theorem dX1_demands_4 : decode cX1_demands 4 = .ok (.iload_n 2, 1) := by decide +kernel
theorem dX1_demands_5 : decode cX1_demands 5 = .ok (.aload_n 0, 1) := by decide +kernel
theorem dX1_demands_6 : decode cX1_demands 6 = .ok (.getfield 26, 3) := by decide +kernel
theorem dX1_demands_9 : decode cX1_demands 9 = .ok (.getfield 51, 3) := by decide +kernel
theorem dX1_demands_12 : decode cX1_demands 12 = .ok (.getfield 55, 3) := by decide +kernel
theorem dX1_demands_15 : decode cX1_demands 15 = .ok (.if_icmp .ge 29, 3) := by decide +kernel
theorem dX1_demands_18 : decode cX1_demands 18 = .ok (.aload_n 0, 1) := by decide +kernel
theorem dX1_demands_19 : decode cX1_demands 19 = .ok (.getfield 15, 3) := by decide +kernel
theorem dX1_demands_22 : decode cX1_demands 22 = .ok (.iload_n 2, 1) := by decide +kernel
theorem dX1_demands_23 : decode cX1_demands 23 = .ok (.aload_n 0, 1) := by decide +kernel
theorem dX1_demands_24 : decode cX1_demands 24 = .ok (.iload_n 2, 1) := by decide +kernel
theorem dX1_demands_25 : decode cX1_demands 25 = .ok (.invokevirtual 75, 3) := by decide +kernel
theorem dX1_demands_28 : decode cX1_demands 28 = .ok (.iastore, 1) := by decide +kernel
theorem dX1_demands_29 : decode cX1_demands 29 = .ok (.iload_n 1, 1) := by decide +kernel
theorem dX1_demands_30 : decode cX1_demands 30 = .ok (.aload_n 0, 1) := by decide +kernel
theorem dX1_demands_31 : decode cX1_demands 31 = .ok (.getfield 15, 3) := by decide +kernel
theorem dX1_demands_34 : decode cX1_demands 34 = .ok (.iload_n 2, 1) := by decide +kernel
theorem dX1_demands_35 : decode cX1_demands 35 = .ok (.iaload, 1) := by decide +kernel
theorem dX1_demands_36 : decode cX1_demands 36 = .ok (.iadd, 1) := by decide +kernel
theorem dX1_demands_37 : decode cX1_demands 37 = .ok (.istore_n 1, 1) := by decide +kernel
theorem dX1_demands_38 : decode cX1_demands 38 = .ok (.iinc 2 1, 3) := by decide +kernel
theorem dX1_demands_41 : decode cX1_demands 41 = .ok (.goto (-37), 3) := by decide +kernel
theorem dX1_demands_44 : decode cX1_demands 44 = .ok (.iload_n 1, 1) := by decide +kernel
theorem dX1_demands_45 : decode cX1_demands 45 = .ok (.ireturn, 1) := by decide +kernel
theorem dX1_fewestAway_0 : decode cX1_fewestAway 0 = .ok (.aload_n 0, 1) := by decide +kernel
theorem dX1_fewestAway_1 : decode cX1_fewestAway 1 = .ok (.invokevirtual 78, 3) := by decide +kernel
theorem dX1_fewestAway_4 : decode cX1_fewestAway 4 = .ok (.iload_n 1, 1) := by decide +kernel
theorem dX1_fewestAway_5 : decode cX1_fewestAway 5 = .ok (.isub, 1) := by decide +kernel
theorem dX1_fewestAway_6 : decode cX1_fewestAway 6 = .ok (.istore_n 2, 1) := by decide +kernel
theorem dX1_fewestAway_7 : decode cX1_fewestAway 7 = .ok (.iconst 1, 1) := by decide +kernel
theorem dX1_fewestAway_8 : decode cX1_fewestAway 8 = .ok (.aload_n 0, 1) := by decide +kernel
theorem dX1_fewestAway_9 : decode cX1_fewestAway 9 = .ok (.getfield 26, 3) := by decide +kernel
theorem dX1_fewestAway_12 : decode cX1_fewestAway 12 = .ok (.getfield 51, 3) := by decide +kernel
theorem dX1_fewestAway_15 : decode cX1_fewestAway 15 = .ok (.getfield 55, 3) := by decide +kernel
theorem dX1_fewestAway_18 : decode cX1_fewestAway 18 = .ok (.ishl, 1) := by decide +kernel
theorem dX1_fewestAway_19 : decode cX1_fewestAway 19 = .ok (.iconst 1, 1) := by decide +kernel
theorem dX1_fewestAway_20 : decode cX1_fewestAway 20 = .ok (.isub, 1) := by decide +kernel
theorem dX1_fewestAway_21 : decode cX1_fewestAway 21 = .ok (.istore_n 3, 1) := by decide +kernel
theorem dX1_fewestAway_22 : decode cX1_fewestAway 22 = .ok (.iconst 0, 1) := by decide +kernel
theorem dX1_fewestAway_23 : decode cX1_fewestAway 23 = .ok (.istore 4, 2) := by decide +kernel
theorem dX1_fewestAway_25 : decode cX1_fewestAway 25 = .ok (.iload 4, 2) := by decide +kernel
theorem dX1_fewestAway_27 : decode cX1_fewestAway 27 = .ok (.iconst 1, 1) := by decide +kernel
theorem dX1_fewestAway_28 : decode cX1_fewestAway 28 = .ok (.aload_n 0, 1) := by decide +kernel
theorem dX1_fewestAway_29 : decode cX1_fewestAway 29 = .ok (.getfield 26, 3) := by decide +kernel
theorem dX1_fewestAway_32 : decode cX1_fewestAway 32 = .ok (.getfield 51, 3) := by decide +kernel
theorem dX1_fewestAway_35 : decode cX1_fewestAway 35 = .ok (.getfield 55, 3) := by decide +kernel
theorem dX1_fewestAway_38 : decode cX1_fewestAway 38 = .ok (.ishl, 1) := by decide +kernel
theorem dX1_fewestAway_39 : decode cX1_fewestAway 39 = .ok (.if_icmp .ge 34, 3) := by decide +kernel
theorem dX1_fewestAway_42 : decode cX1_fewestAway 42 = .ok (.iload 4, 2) := by decide +kernel
theorem dX1_fewestAway_44 : decode cX1_fewestAway 44 = .ok (.invokestatic 82, 3) := by decide +kernel
theorem dX1_fewestAway_47 : decode cX1_fewestAway 47 = .ok (.iload_n 3, 1) := by decide +kernel
theorem dX1_fewestAway_48 : decode cX1_fewestAway 48 = .ok (.invokestatic 82, 3) := by decide +kernel
theorem dX1_fewestAway_51 : decode cX1_fewestAway 51 = .ok (.if_icmp .ge 16, 3) := by decide +kernel
theorem dX1_fewestAway_54 : decode cX1_fewestAway 54 = .ok (.aload_n 0, 1) := by decide +kernel
theorem dX1_fewestAway_55 : decode cX1_fewestAway 55 = .ok (.iload 4, 2) := by decide +kernel
theorem dX1_fewestAway_57 : decode cX1_fewestAway 57 = .ok (.invokevirtual 87, 3) := by decide +kernel
theorem dX1_fewestAway_60 : decode cX1_fewestAway 60 = .ok (.iload_n 2, 1) := by decide +kernel
theorem dX1_fewestAway_61 : decode cX1_fewestAway 61 = .ok (.if_icmp .lt 6, 3) := by decide +kernel
theorem dX1_fewestAway_64 : decode cX1_fewestAway 64 = .ok (.iload 4, 2) := by decide +kernel
theorem dX1_fewestAway_66 : decode cX1_fewestAway 66 = .ok (.istore_n 3, 1) := by decide +kernel
theorem dX1_fewestAway_67 : decode cX1_fewestAway 67 = .ok (.iinc 4 1, 3) := by decide +kernel
theorem dX1_fewestAway_70 : decode cX1_fewestAway 70 = .ok (.goto (-45), 3) := by decide +kernel
theorem dX1_fewestAway_73 : decode cX1_fewestAway 73 = .ok (.iload_n 3, 1) := by decide +kernel
theorem dX1_fewestAway_74 : decode cX1_fewestAway 74 = .ok (.ireturn, 1) := by decide +kernel
theorem dX1_askedBy_0 : decode cX1_askedBy 0 = .ok (.iconst 0, 1) := by decide +kernel
theorem dX1_askedBy_1 : decode cX1_askedBy 1 = .ok (.istore_n 2, 1) := by decide +kernel
theorem dX1_askedBy_2 : decode cX1_askedBy 2 = .ok (.iconst 0, 1) := by decide +kernel
theorem dX1_askedBy_3 : decode cX1_askedBy 3 = .ok (.istore_n 3, 1) := by decide +kernel
theorem dX1_askedBy_4 : decode cX1_askedBy 4 = .ok (.iload_n 3, 1) := by decide +kernel
theorem dX1_askedBy_5 : decode cX1_askedBy 5 = .ok (.aload_n 0, 1) := by decide +kernel
theorem dX1_askedBy_6 : decode cX1_askedBy 6 = .ok (.getfield 26, 3) := by decide +kernel
theorem dX1_askedBy_9 : decode cX1_askedBy 9 = .ok (.getfield 51, 3) := by decide +kernel
theorem dX1_askedBy_12 : decode cX1_askedBy 12 = .ok (.getfield 55, 3) := by decide +kernel
theorem dX1_askedBy_15 : decode cX1_askedBy 15 = .ok (.if_icmp .ge 31, 3) := by decide +kernel
theorem dX1_askedBy_18 : decode cX1_askedBy 18 = .ok (.iload_n 2, 1) := by decide +kernel
theorem dX1_askedBy_19 : decode cX1_askedBy 19 = .ok (.iload_n 1, 1) := by decide +kernel
theorem dX1_askedBy_20 : decode cX1_askedBy 20 = .ok (.iload_n 3, 1) := by decide +kernel
theorem dX1_askedBy_21 : decode cX1_askedBy 21 = .ok (.ishr, 1) := by decide +kernel
theorem dX1_askedBy_22 : decode cX1_askedBy 22 = .ok (.iconst 1, 1) := by decide +kernel
theorem dX1_askedBy_23 : decode cX1_askedBy 23 = .ok (.iand, 1) := by decide +kernel
theorem dX1_askedBy_24 : decode cX1_askedBy 24 = .ok (.iconst 1, 1) := by decide +kernel
theorem dX1_askedBy_25 : decode cX1_askedBy 25 = .ok (.if_icmp .ne 12, 3) := by decide +kernel
theorem dX1_askedBy_28 : decode cX1_askedBy 28 = .ok (.aload_n 0, 1) := by decide +kernel
theorem dX1_askedBy_29 : decode cX1_askedBy 29 = .ok (.getfield 15, 3) := by decide +kernel
theorem dX1_askedBy_32 : decode cX1_askedBy 32 = .ok (.iload_n 3, 1) := by decide +kernel
theorem dX1_askedBy_33 : decode cX1_askedBy 33 = .ok (.iaload, 1) := by decide +kernel
theorem dX1_askedBy_34 : decode cX1_askedBy 34 = .ok (.goto 4, 3) := by decide +kernel
theorem dX1_askedBy_37 : decode cX1_askedBy 37 = .ok (.iconst 0, 1) := by decide +kernel
theorem dX1_askedBy_38 : decode cX1_askedBy 38 = .ok (.iadd, 1) := by decide +kernel
theorem dX1_askedBy_39 : decode cX1_askedBy 39 = .ok (.istore_n 2, 1) := by decide +kernel
theorem dX1_askedBy_40 : decode cX1_askedBy 40 = .ok (.iinc 3 1, 3) := by decide +kernel
theorem dX1_askedBy_43 : decode cX1_askedBy 43 = .ok (.goto (-39), 3) := by decide +kernel
theorem dX1_askedBy_46 : decode cX1_askedBy 46 = .ok (.iload_n 2, 1) := by decide +kernel
theorem dX1_askedBy_47 : decode cX1_askedBy 47 = .ok (.ireturn, 1) := by decide +kernel
theorem dX1_hear_0 : decode cX1_hear 0 = .ok (.aload_n 0, 1) := by decide +kernel
theorem dX1_hear_1 : decode cX1_hear 1 = .ok (.iconst 0, 1) := by decide +kernel
theorem dX1_hear_2 : decode cX1_hear 2 = .ok (.putfield 90, 3) := by decide +kernel
theorem dX1_hear_5 : decode cX1_hear 5 = .ok (.iconst 0, 1) := by decide +kernel
theorem dX1_hear_6 : decode cX1_hear 6 = .ok (.istore_n 2, 1) := by decide +kernel
theorem dX1_hear_7 : decode cX1_hear 7 = .ok (.iload_n 2, 1) := by decide +kernel
theorem dX1_hear_8 : decode cX1_hear 8 = .ok (.aload_n 0, 1) := by decide +kernel
theorem dX1_hear_9 : decode cX1_hear 9 = .ok (.getfield 26, 3) := by decide +kernel
theorem dX1_hear_12 : decode cX1_hear 12 = .ok (.getfield 51, 3) := by decide +kernel
theorem dX1_hear_15 : decode cX1_hear 15 = .ok (.getfield 55, 3) := by decide +kernel
theorem dX1_hear_18 : decode cX1_hear 18 = .ok (.if_icmp .ge 90, 3) := by decide +kernel
theorem dX1_hear_21 : decode cX1_hear 21 = .ok (.aload_n 0, 1) := by decide +kernel
theorem dX1_hear_22 : decode cX1_hear 22 = .ok (.getfield 26, 3) := by decide +kernel
theorem dX1_hear_25 : decode cX1_hear 25 = .ok (.iload_n 2, 1) := by decide +kernel
theorem dX1_hear_26 : decode cX1_hear 26 = .ok (.invokevirtual 34, 3) := by decide +kernel
theorem dX1_hear_29 : decode cX1_hear 29 = .ok (.ifCond .eq 73, 3) := by decide +kernel
theorem dX1_hear_32 : decode cX1_hear 32 = .ok (.aload_n 0, 1) := by decide +kernel
theorem dX1_hear_33 : decode cX1_hear 33 = .ok (.getfield 26, 3) := by decide +kernel
theorem dX1_hear_36 : decode cX1_hear 36 = .ok (.iload_n 2, 1) := by decide +kernel
theorem dX1_hear_37 : decode cX1_hear 37 = .ok (.invokevirtual 40, 3) := by decide +kernel
theorem dX1_hear_40 : decode cX1_hear 40 = .ok (.ifCond .eq 14, 3) := by decide +kernel
theorem dX1_hear_43 : decode cX1_hear 43 = .ok (.aload_n 0, 1) := by decide +kernel
theorem dX1_hear_44 : decode cX1_hear 44 = .ok (.getfield 26, 3) := by decide +kernel
theorem dX1_hear_47 : decode cX1_hear 47 = .ok (.iconst 1, 1) := by decide +kernel
theorem dX1_hear_48 : decode cX1_hear 48 = .ok (.invokevirtual 43, 3) := by decide +kernel
theorem dX1_hear_51 : decode cX1_hear 51 = .ok (.ifCond .eq 51, 3) := by decide +kernel
theorem dX1_hear_54 : decode cX1_hear 54 = .ok (.aload_n 0, 1) := by decide +kernel
theorem dX1_hear_55 : decode cX1_hear 55 = .ok (.dup, 1) := by decide +kernel
theorem dX1_hear_56 : decode cX1_hear 56 = .ok (.getfield 90, 3) := by decide +kernel
theorem dX1_hear_59 : decode cX1_hear 59 = .ok (.iconst 1, 1) := by decide +kernel
theorem dX1_hear_60 : decode cX1_hear 60 = .ok (.iload_n 2, 1) := by decide +kernel
theorem dX1_hear_61 : decode cX1_hear 61 = .ok (.ishl, 1) := by decide +kernel
theorem dX1_hear_62 : decode cX1_hear 62 = .ok (.ior, 1) := by decide +kernel
theorem dX1_hear_63 : decode cX1_hear 63 = .ok (.putfield 90, 3) := by decide +kernel
theorem dX1_hear_66 : decode cX1_hear 66 = .ok (.iconst 0, 1) := by decide +kernel
theorem dX1_hear_67 : decode cX1_hear 67 = .ok (.istore_n 3, 1) := by decide +kernel
theorem dX1_hear_68 : decode cX1_hear 68 = .ok (.iload_n 3, 1) := by decide +kernel
theorem dX1_hear_69 : decode cX1_hear 69 = .ok (.iload_n 1, 1) := by decide +kernel
theorem dX1_hear_70 : decode cX1_hear 70 = .ok (.if_icmp .ge 32, 3) := by decide +kernel
theorem dX1_hear_73 : decode cX1_hear 73 = .ok (.iload_n 3, 1) := by decide +kernel
theorem dX1_hear_74 : decode cX1_hear 74 = .ok (.bipush 6, 2) := by decide +kernel
theorem dX1_hear_76 : decode cX1_hear 76 = .ok (.if_icmp .ge 26, 3) := by decide +kernel
theorem dX1_hear_79 : decode cX1_hear 79 = .ok (.aload_n 0, 1) := by decide +kernel
theorem dX1_hear_80 : decode cX1_hear 80 = .ok (.getfield 23, 3) := by decide +kernel
theorem dX1_hear_83 : decode cX1_hear 83 = .ok (.iload_n 3, 1) := by decide +kernel
theorem dX1_hear_84 : decode cX1_hear 84 = .ok (.aaload, 1) := by decide +kernel
theorem dX1_hear_85 : decode cX1_hear 85 = .ok (.iload_n 2, 1) := by decide +kernel
theorem dX1_hear_86 : decode cX1_hear 86 = .ok (.aload_n 0, 1) := by decide +kernel
theorem dX1_hear_87 : decode cX1_hear 87 = .ok (.getfield 26, 3) := by decide +kernel
theorem dX1_hear_90 : decode cX1_hear 90 = .ok (.iload_n 3, 1) := by decide +kernel
theorem dX1_hear_91 : decode cX1_hear 91 = .ok (.iload_n 2, 1) := by decide +kernel
theorem dX1_hear_92 : decode cX1_hear 92 = .ok (.invokevirtual 93, 3) := by decide +kernel
theorem dX1_hear_95 : decode cX1_hear 95 = .ok (.iastore, 1) := by decide +kernel
theorem dX1_hear_96 : decode cX1_hear 96 = .ok (.iinc 3 1, 3) := by decide +kernel
theorem dX1_hear_99 : decode cX1_hear 99 = .ok (.goto (-31), 3) := by decide +kernel
theorem dX1_hear_102 : decode cX1_hear 102 = .ok (.iinc 2 1, 3) := by decide +kernel
theorem dX1_hear_105 : decode cX1_hear 105 = .ok (.goto (-98), 3) := by decide +kernel
theorem dX1_hear_108 : decode cX1_hear 108 = .ok (.return_, 1) := by decide +kernel
theorem dX1_isVoter_0 : decode cX1_isVoter 0 = .ok (.aload_n 0, 1) := by decide +kernel
theorem dX1_isVoter_1 : decode cX1_isVoter 1 = .ok (.getfield 90, 3) := by decide +kernel
theorem dX1_isVoter_4 : decode cX1_isVoter 4 = .ok (.iload_n 1, 1) := by decide +kernel
theorem dX1_isVoter_5 : decode cX1_isVoter 5 = .ok (.ishr, 1) := by decide +kernel
theorem dX1_isVoter_6 : decode cX1_isVoter 6 = .ok (.iconst 1, 1) := by decide +kernel
theorem dX1_isVoter_7 : decode cX1_isVoter 7 = .ok (.iand, 1) := by decide +kernel
theorem dX1_isVoter_8 : decode cX1_isVoter 8 = .ok (.iconst 1, 1) := by decide +kernel
theorem dX1_isVoter_9 : decode cX1_isVoter 9 = .ok (.if_icmp .ne 7, 3) := by decide +kernel
theorem dX1_isVoter_12 : decode cX1_isVoter 12 = .ok (.iconst 1, 1) := by decide +kernel
theorem dX1_isVoter_13 : decode cX1_isVoter 13 = .ok (.goto 4, 3) := by decide +kernel
theorem dX1_isVoter_16 : decode cX1_isVoter 16 = .ok (.iconst 0, 1) := by decide +kernel
theorem dX1_isVoter_17 : decode cX1_isVoter 17 = .ok (.ireturn, 1) := by decide +kernel
theorem dX1_votedFor_0 : decode cX1_votedFor 0 = .ok (.iconst 0, 1) := by decide +kernel
theorem dX1_votedFor_1 : decode cX1_votedFor 1 = .ok (.istore_n 3, 1) := by decide +kernel
theorem dX1_votedFor_2 : decode cX1_votedFor 2 = .ok (.iconst 1, 1) := by decide +kernel
theorem dX1_votedFor_3 : decode cX1_votedFor 3 = .ok (.istore 4, 2) := by decide +kernel
theorem dX1_votedFor_5 : decode cX1_votedFor 5 = .ok (.iload 4, 2) := by decide +kernel
theorem dX1_votedFor_7 : decode cX1_votedFor 7 = .ok (.iload_n 2, 1) := by decide +kernel
theorem dX1_votedFor_8 : decode cX1_votedFor 8 = .ok (.if_icmp .ge 32, 3) := by decide +kernel
theorem dX1_votedFor_11 : decode cX1_votedFor 11 = .ok (.aload_n 0, 1) := by decide +kernel
theorem dX1_votedFor_12 : decode cX1_votedFor 12 = .ok (.getfield 23, 3) := by decide +kernel
theorem dX1_votedFor_15 : decode cX1_votedFor 15 = .ok (.iload 4, 2) := by decide +kernel
theorem dX1_votedFor_17 : decode cX1_votedFor 17 = .ok (.aaload, 1) := by decide +kernel
theorem dX1_votedFor_18 : decode cX1_votedFor 18 = .ok (.iload_n 1, 1) := by decide +kernel
theorem dX1_votedFor_19 : decode cX1_votedFor 19 = .ok (.iaload, 1) := by decide +kernel
theorem dX1_votedFor_20 : decode cX1_votedFor 20 = .ok (.aload_n 0, 1) := by decide +kernel
theorem dX1_votedFor_21 : decode cX1_votedFor 21 = .ok (.getfield 23, 3) := by decide +kernel
theorem dX1_votedFor_24 : decode cX1_votedFor 24 = .ok (.iload_n 3, 1) := by decide +kernel
theorem dX1_votedFor_25 : decode cX1_votedFor 25 = .ok (.aaload, 1) := by decide +kernel
theorem dX1_votedFor_26 : decode cX1_votedFor 26 = .ok (.iload_n 1, 1) := by decide +kernel
theorem dX1_votedFor_27 : decode cX1_votedFor 27 = .ok (.iaload, 1) := by decide +kernel
theorem dX1_votedFor_28 : decode cX1_votedFor 28 = .ok (.if_icmp .le 6, 3) := by decide +kernel
theorem dX1_votedFor_31 : decode cX1_votedFor 31 = .ok (.iload 4, 2) := by decide +kernel
theorem dX1_votedFor_33 : decode cX1_votedFor 33 = .ok (.istore_n 3, 1) := by decide +kernel
theorem dX1_votedFor_34 : decode cX1_votedFor 34 = .ok (.iinc 4 1, 3) := by decide +kernel
theorem dX1_votedFor_37 : decode cX1_votedFor 37 = .ok (.goto (-32), 3) := by decide +kernel
theorem dX1_votedFor_40 : decode cX1_votedFor 40 = .ok (.iload_n 3, 1) := by decide +kernel
theorem dX1_votedFor_41 : decode cX1_votedFor 41 = .ok (.ireturn, 1) := by decide +kernel
theorem dX1_winner_0 : decode cX1_winner 0 = .ok (.aload_n 0, 1) := by decide +kernel
theorem dX1_winner_1 : decode cX1_winner 1 = .ok (.iload_n 1, 1) := by decide +kernel
theorem dX1_winner_2 : decode cX1_winner 2 = .ok (.invokevirtual 97, 3) := by decide +kernel
theorem dX1_winner_5 : decode cX1_winner 5 = .ok (.aload_n 0, 1) := by decide +kernel
theorem dX1_winner_6 : decode cX1_winner 6 = .ok (.getfield 90, 3) := by decide +kernel
theorem dX1_winner_9 : decode cX1_winner 9 = .ok (.ifCond .ne 5, 3) := by decide +kernel
theorem dX1_winner_12 : decode cX1_winner 12 = .ok (.iconst (-1), 1) := by decide +kernel
theorem dX1_winner_13 : decode cX1_winner 13 = .ok (.ireturn, 1) := by decide +kernel
theorem dX1_winner_14 : decode cX1_winner 14 = .ok (.iconst 0, 1) := by decide +kernel
theorem dX1_winner_15 : decode cX1_winner 15 = .ok (.istore_n 3, 1) := by decide +kernel
theorem dX1_winner_16 : decode cX1_winner 16 = .ok (.iload_n 3, 1) := by decide +kernel
theorem dX1_winner_17 : decode cX1_winner 17 = .ok (.iload_n 1, 1) := by decide +kernel
theorem dX1_winner_18 : decode cX1_winner 18 = .ok (.if_icmp .ge 16, 3) := by decide +kernel
theorem dX1_winner_21 : decode cX1_winner 21 = .ok (.aload_n 0, 1) := by decide +kernel
theorem dX1_winner_22 : decode cX1_winner 22 = .ok (.getfield 18, 3) := by decide +kernel
theorem dX1_winner_25 : decode cX1_winner 25 = .ok (.iload_n 3, 1) := by decide +kernel
theorem dX1_winner_26 : decode cX1_winner 26 = .ok (.iconst 0, 1) := by decide +kernel
theorem dX1_winner_27 : decode cX1_winner 27 = .ok (.iastore, 1) := by decide +kernel
theorem dX1_winner_28 : decode cX1_winner 28 = .ok (.iinc 3 1, 3) := by decide +kernel
theorem dX1_winner_31 : decode cX1_winner 31 = .ok (.goto (-15), 3) := by decide +kernel
theorem dX1_winner_34 : decode cX1_winner 34 = .ok (.iconst 0, 1) := by decide +kernel
theorem dX1_winner_35 : decode cX1_winner 35 = .ok (.istore_n 3, 1) := by decide +kernel
theorem dX1_winner_36 : decode cX1_winner 36 = .ok (.iload_n 3, 1) := by decide +kernel
theorem dX1_winner_37 : decode cX1_winner 37 = .ok (.aload_n 0, 1) := by decide +kernel
theorem dX1_winner_38 : decode cX1_winner 38 = .ok (.getfield 26, 3) := by decide +kernel
theorem dX1_winner_41 : decode cX1_winner 41 = .ok (.getfield 51, 3) := by decide +kernel
theorem dX1_winner_44 : decode cX1_winner 44 = .ok (.getfield 55, 3) := by decide +kernel
theorem dX1_winner_47 : decode cX1_winner 47 = .ok (.if_icmp .ge 32, 3) := by decide +kernel
theorem dX1_winner_50 : decode cX1_winner 50 = .ok (.aload_n 0, 1) := by decide +kernel
theorem dX1_winner_51 : decode cX1_winner 51 = .ok (.iload_n 3, 1) := by decide +kernel
theorem dX1_winner_52 : decode cX1_winner 52 = .ok (.invokevirtual 101, 3) := by decide +kernel
theorem dX1_winner_55 : decode cX1_winner 55 = .ok (.ifCond .eq 18, 3) := by decide +kernel
theorem dX1_winner_58 : decode cX1_winner 58 = .ok (.aload_n 0, 1) := by decide +kernel
theorem dX1_winner_59 : decode cX1_winner 59 = .ok (.getfield 18, 3) := by decide +kernel
theorem dX1_winner_62 : decode cX1_winner 62 = .ok (.aload_n 0, 1) := by decide +kernel
theorem dX1_winner_63 : decode cX1_winner 63 = .ok (.iload_n 3, 1) := by decide +kernel
theorem dX1_winner_64 : decode cX1_winner 64 = .ok (.iload_n 1, 1) := by decide +kernel
theorem dX1_winner_65 : decode cX1_winner 65 = .ok (.invokevirtual 104, 3) := by decide +kernel
theorem dX1_winner_68 : decode cX1_winner 68 = .ok (.dup2, 1) := by decide +kernel
theorem dX1_winner_69 : decode cX1_winner 69 = .ok (.iaload, 1) := by decide +kernel
theorem dX1_winner_70 : decode cX1_winner 70 = .ok (.iconst 1, 1) := by decide +kernel
theorem dX1_winner_71 : decode cX1_winner 71 = .ok (.iadd, 1) := by decide +kernel
theorem dX1_winner_72 : decode cX1_winner 72 = .ok (.iastore, 1) := by decide +kernel
theorem dX1_winner_73 : decode cX1_winner 73 = .ok (.iinc 3 1, 3) := by decide +kernel
theorem dX1_winner_76 : decode cX1_winner 76 = .ok (.goto (-40), 3) := by decide +kernel
theorem dX1_winner_79 : decode cX1_winner 79 = .ok (.iconst 0, 1) := by decide +kernel
theorem dX1_winner_80 : decode cX1_winner 80 = .ok (.istore_n 3, 1) := by decide +kernel
theorem dX1_winner_81 : decode cX1_winner 81 = .ok (.iconst 1, 1) := by decide +kernel
theorem dX1_winner_82 : decode cX1_winner 82 = .ok (.istore 4, 2) := by decide +kernel
theorem dX1_winner_84 : decode cX1_winner 84 = .ok (.iload 4, 2) := by decide +kernel
theorem dX1_winner_86 : decode cX1_winner 86 = .ok (.iload_n 1, 1) := by decide +kernel
theorem dX1_winner_87 : decode cX1_winner 87 = .ok (.if_icmp .ge 28, 3) := by decide +kernel
theorem dX1_winner_90 : decode cX1_winner 90 = .ok (.aload_n 0, 1) := by decide +kernel
theorem dX1_winner_91 : decode cX1_winner 91 = .ok (.getfield 18, 3) := by decide +kernel
theorem dX1_winner_94 : decode cX1_winner 94 = .ok (.iload 4, 2) := by decide +kernel
theorem dX1_winner_96 : decode cX1_winner 96 = .ok (.iaload, 1) := by decide +kernel
theorem dX1_winner_97 : decode cX1_winner 97 = .ok (.aload_n 0, 1) := by decide +kernel
theorem dX1_winner_98 : decode cX1_winner 98 = .ok (.getfield 18, 3) := by decide +kernel
theorem dX1_winner_101 : decode cX1_winner 101 = .ok (.iload_n 3, 1) := by decide +kernel
theorem dX1_winner_102 : decode cX1_winner 102 = .ok (.iaload, 1) := by decide +kernel
theorem dX1_winner_103 : decode cX1_winner 103 = .ok (.if_icmp .le 6, 3) := by decide +kernel
theorem dX1_winner_106 : decode cX1_winner 106 = .ok (.iload 4, 2) := by decide +kernel
theorem dX1_winner_108 : decode cX1_winner 108 = .ok (.istore_n 3, 1) := by decide +kernel
theorem dX1_winner_109 : decode cX1_winner 109 = .ok (.iinc 4 1, 3) := by decide +kernel
theorem dX1_winner_112 : decode cX1_winner 112 = .ok (.goto (-28), 3) := by decide +kernel
theorem dX1_winner_115 : decode cX1_winner 115 = .ok (.iload_n 2, 1) := by decide +kernel
theorem dX1_winner_116 : decode cX1_winner 116 = .ok (.ifCond .ne 7, 3) := by decide +kernel
theorem dX1_winner_119 : decode cX1_winner 119 = .ok (.iload_n 3, 1) := by decide +kernel
theorem dX1_winner_120 : decode cX1_winner 120 = .ok (.goto 9, 3) := by decide +kernel
theorem dX1_winner_123 : decode cX1_winner 123 = .ok (.aload_n 0, 1) := by decide +kernel
theorem dX1_winner_124 : decode cX1_winner 124 = .ok (.getfield 18, 3) := by decide +kernel
theorem dX1_winner_127 : decode cX1_winner 127 = .ok (.iload_n 3, 1) := by decide +kernel
theorem dX1_winner_128 : decode cX1_winner 128 = .ok (.iaload, 1) := by decide +kernel
theorem dX1_winner_129 : decode cX1_winner 129 = .ok (.ireturn, 1) := by decide +kernel
theorem dX1_ahead_0 : decode cX1_ahead 0 = .ok (.iconst 0, 1) := by decide +kernel
theorem dX1_ahead_1 : decode cX1_ahead 1 = .ok (.istore_n 3, 1) := by decide +kernel
theorem dX1_ahead_2 : decode cX1_ahead 2 = .ok (.iconst 0, 1) := by decide +kernel
theorem dX1_ahead_3 : decode cX1_ahead 3 = .ok (.istore 4, 2) := by decide +kernel
theorem dX1_ahead_5 : decode cX1_ahead 5 = .ok (.iload 4, 2) := by decide +kernel
theorem dX1_ahead_7 : decode cX1_ahead 7 = .ok (.aload_n 0, 1) := by decide +kernel
theorem dX1_ahead_8 : decode cX1_ahead 8 = .ok (.getfield 26, 3) := by decide +kernel
theorem dX1_ahead_11 : decode cX1_ahead 11 = .ok (.getfield 51, 3) := by decide +kernel
theorem dX1_ahead_14 : decode cX1_ahead 14 = .ok (.getfield 55, 3) := by decide +kernel
theorem dX1_ahead_17 : decode cX1_ahead 17 = .ok (.if_icmp .ge 42, 3) := by decide +kernel
theorem dX1_ahead_20 : decode cX1_ahead 20 = .ok (.aload_n 0, 1) := by decide +kernel
theorem dX1_ahead_21 : decode cX1_ahead 21 = .ok (.iload 4, 2) := by decide +kernel
theorem dX1_ahead_23 : decode cX1_ahead 23 = .ok (.invokevirtual 101, 3) := by decide +kernel
theorem dX1_ahead_26 : decode cX1_ahead 26 = .ok (.ifCond .eq 27, 3) := by decide +kernel
theorem dX1_ahead_29 : decode cX1_ahead 29 = .ok (.iload_n 3, 1) := by decide +kernel
theorem dX1_ahead_30 : decode cX1_ahead 30 = .ok (.aload_n 0, 1) := by decide +kernel
theorem dX1_ahead_31 : decode cX1_ahead 31 = .ok (.getfield 23, 3) := by decide +kernel
theorem dX1_ahead_34 : decode cX1_ahead 34 = .ok (.iload_n 1, 1) := by decide +kernel
theorem dX1_ahead_35 : decode cX1_ahead 35 = .ok (.aaload, 1) := by decide +kernel
theorem dX1_ahead_36 : decode cX1_ahead 36 = .ok (.iload 4, 2) := by decide +kernel
theorem dX1_ahead_38 : decode cX1_ahead 38 = .ok (.iaload, 1) := by decide +kernel
theorem dX1_ahead_39 : decode cX1_ahead 39 = .ok (.aload_n 0, 1) := by decide +kernel
theorem dX1_ahead_40 : decode cX1_ahead 40 = .ok (.getfield 23, 3) := by decide +kernel
theorem dX1_ahead_43 : decode cX1_ahead 43 = .ok (.iload_n 2, 1) := by decide +kernel
theorem dX1_ahead_44 : decode cX1_ahead 44 = .ok (.aaload, 1) := by decide +kernel
theorem dX1_ahead_45 : decode cX1_ahead 45 = .ok (.iload 4, 2) := by decide +kernel
theorem dX1_ahead_47 : decode cX1_ahead 47 = .ok (.iaload, 1) := by decide +kernel
theorem dX1_ahead_48 : decode cX1_ahead 48 = .ok (.invokestatic 107, 3) := by decide +kernel
theorem dX1_ahead_51 : decode cX1_ahead 51 = .ok (.iadd, 1) := by decide +kernel
theorem dX1_ahead_52 : decode cX1_ahead 52 = .ok (.istore_n 3, 1) := by decide +kernel
theorem dX1_ahead_53 : decode cX1_ahead 53 = .ok (.iinc 4 1, 3) := by decide +kernel
theorem dX1_ahead_56 : decode cX1_ahead 56 = .ok (.goto (-51), 3) := by decide +kernel
theorem dX1_ahead_59 : decode cX1_ahead 59 = .ok (.iload_n 3, 1) := by decide +kernel
theorem dX1_ahead_60 : decode cX1_ahead 60 = .ok (.ireturn, 1) := by decide +kernel
theorem dX1_beatsAll_0 : decode cX1_beatsAll 0 = .ok (.aload_n 0, 1) := by decide +kernel
theorem dX1_beatsAll_1 : decode cX1_beatsAll 1 = .ok (.iload_n 1, 1) := by decide +kernel
theorem dX1_beatsAll_2 : decode cX1_beatsAll 2 = .ok (.invokevirtual 97, 3) := by decide +kernel
theorem dX1_beatsAll_5 : decode cX1_beatsAll 5 = .ok (.iconst 0, 1) := by decide +kernel
theorem dX1_beatsAll_6 : decode cX1_beatsAll 6 = .ok (.istore_n 2, 1) := by decide +kernel
theorem dX1_beatsAll_7 : decode cX1_beatsAll 7 = .ok (.iload_n 2, 1) := by decide +kernel
theorem dX1_beatsAll_8 : decode cX1_beatsAll 8 = .ok (.iload_n 1, 1) := by decide +kernel
theorem dX1_beatsAll_9 : decode cX1_beatsAll 9 = .ok (.if_icmp .ge 58, 3) := by decide +kernel
theorem dX1_beatsAll_12 : decode cX1_beatsAll 12 = .ok (.iconst 1, 1) := by decide +kernel
theorem dX1_beatsAll_13 : decode cX1_beatsAll 13 = .ok (.istore_n 3, 1) := by decide +kernel
theorem dX1_beatsAll_14 : decode cX1_beatsAll 14 = .ok (.iconst 0, 1) := by decide +kernel
theorem dX1_beatsAll_15 : decode cX1_beatsAll 15 = .ok (.istore 4, 2) := by decide +kernel
theorem dX1_beatsAll_17 : decode cX1_beatsAll 17 = .ok (.iload 4, 2) := by decide +kernel
theorem dX1_beatsAll_19 : decode cX1_beatsAll 19 = .ok (.iload_n 1, 1) := by decide +kernel
theorem dX1_beatsAll_20 : decode cX1_beatsAll 20 = .ok (.if_icmp .ge 35, 3) := by decide +kernel
theorem dX1_beatsAll_23 : decode cX1_beatsAll 23 = .ok (.iload_n 3, 1) := by decide +kernel
theorem dX1_beatsAll_24 : decode cX1_beatsAll 24 = .ok (.ifCond .eq 31, 3) := by decide +kernel
theorem dX1_beatsAll_27 : decode cX1_beatsAll 27 = .ok (.iload 4, 2) := by decide +kernel
theorem dX1_beatsAll_29 : decode cX1_beatsAll 29 = .ok (.iload_n 2, 1) := by decide +kernel
theorem dX1_beatsAll_30 : decode cX1_beatsAll 30 = .ok (.if_icmp .eq 13, 3) := by decide +kernel
theorem dX1_beatsAll_33 : decode cX1_beatsAll 33 = .ok (.aload_n 0, 1) := by decide +kernel
theorem dX1_beatsAll_34 : decode cX1_beatsAll 34 = .ok (.iload_n 2, 1) := by decide +kernel
theorem dX1_beatsAll_35 : decode cX1_beatsAll 35 = .ok (.iload 4, 2) := by decide +kernel
theorem dX1_beatsAll_37 : decode cX1_beatsAll 37 = .ok (.invokevirtual 110, 3) := by decide +kernel
theorem dX1_beatsAll_40 : decode cX1_beatsAll 40 = .ok (.ifCond .le 7, 3) := by decide +kernel
theorem dX1_beatsAll_43 : decode cX1_beatsAll 43 = .ok (.iconst 1, 1) := by decide +kernel
theorem dX1_beatsAll_44 : decode cX1_beatsAll 44 = .ok (.goto 4, 3) := by decide +kernel
theorem dX1_beatsAll_47 : decode cX1_beatsAll 47 = .ok (.iconst 0, 1) := by decide +kernel
theorem dX1_beatsAll_48 : decode cX1_beatsAll 48 = .ok (.istore_n 3, 1) := by decide +kernel
theorem dX1_beatsAll_49 : decode cX1_beatsAll 49 = .ok (.iinc 4 1, 3) := by decide +kernel
theorem dX1_beatsAll_52 : decode cX1_beatsAll 52 = .ok (.goto (-35), 3) := by decide +kernel
theorem dX1_beatsAll_55 : decode cX1_beatsAll 55 = .ok (.iload_n 3, 1) := by decide +kernel
theorem dX1_beatsAll_56 : decode cX1_beatsAll 56 = .ok (.ifCond .eq 5, 3) := by decide +kernel
theorem dX1_beatsAll_59 : decode cX1_beatsAll 59 = .ok (.iload_n 2, 1) := by decide +kernel
theorem dX1_beatsAll_60 : decode cX1_beatsAll 60 = .ok (.ireturn, 1) := by decide +kernel
theorem dX1_beatsAll_61 : decode cX1_beatsAll 61 = .ok (.iinc 2 1, 3) := by decide +kernel
theorem dX1_beatsAll_64 : decode cX1_beatsAll 64 = .ok (.goto (-57), 3) := by decide +kernel
theorem dX1_beatsAll_67 : decode cX1_beatsAll 67 = .ok (.iconst (-1), 1) := by decide +kernel
theorem dX1_beatsAll_68 : decode cX1_beatsAll 68 = .ok (.ireturn, 1) := by decide +kernel
theorem dX1_leastRing_0 : decode cX1_leastRing 0 = .ok (.aload_n 0, 1) := by decide +kernel
theorem dX1_leastRing_1 : decode cX1_leastRing 1 = .ok (.iload_n 1, 1) := by decide +kernel
theorem dX1_leastRing_2 : decode cX1_leastRing 2 = .ok (.invokevirtual 97, 3) := by decide +kernel
theorem dX1_leastRing_5 : decode cX1_leastRing 5 = .ok (.iconst 0, 1) := by decide +kernel
theorem dX1_leastRing_6 : decode cX1_leastRing 6 = .ok (.istore_n 2, 1) := by decide +kernel
theorem dX1_leastRing_7 : decode cX1_leastRing 7 = .ok (.iload_n 2, 1) := by decide +kernel
theorem dX1_leastRing_8 : decode cX1_leastRing 8 = .ok (.iload_n 1, 1) := by decide +kernel
theorem dX1_leastRing_9 : decode cX1_leastRing 9 = .ok (.if_icmp .ge 63, 3) := by decide +kernel
theorem dX1_leastRing_12 : decode cX1_leastRing 12 = .ok (.iconst 0, 1) := by decide +kernel
theorem dX1_leastRing_13 : decode cX1_leastRing 13 = .ok (.istore_n 3, 1) := by decide +kernel
theorem dX1_leastRing_14 : decode cX1_leastRing 14 = .ok (.iload_n 3, 1) := by decide +kernel
theorem dX1_leastRing_15 : decode cX1_leastRing 15 = .ok (.iload_n 1, 1) := by decide +kernel
theorem dX1_leastRing_16 : decode cX1_leastRing 16 = .ok (.if_icmp .ge 50, 3) := by decide +kernel
theorem dX1_leastRing_19 : decode cX1_leastRing 19 = .ok (.aload_n 0, 1) := by decide +kernel
theorem dX1_leastRing_20 : decode cX1_leastRing 20 = .ok (.iload_n 2, 1) := by decide +kernel
theorem dX1_leastRing_21 : decode cX1_leastRing 21 = .ok (.iload_n 3, 1) := by decide +kernel
theorem dX1_leastRing_22 : decode cX1_leastRing 22 = .ok (.invokevirtual 110, 3) := by decide +kernel
theorem dX1_leastRing_25 : decode cX1_leastRing 25 = .ok (.ifCond .le 13, 3) := by decide +kernel
theorem dX1_leastRing_28 : decode cX1_leastRing 28 = .ok (.aload_n 0, 1) := by decide +kernel
theorem dX1_leastRing_29 : decode cX1_leastRing 29 = .ok (.iload_n 2, 1) := by decide +kernel
theorem dX1_leastRing_30 : decode cX1_leastRing 30 = .ok (.iload_n 3, 1) := by decide +kernel
theorem dX1_leastRing_31 : decode cX1_leastRing 31 = .ok (.iload_n 1, 1) := by decide +kernel
theorem dX1_leastRing_32 : decode cX1_leastRing 32 = .ok (.invokevirtual 113, 3) := by decide +kernel
theorem dX1_leastRing_35 : decode cX1_leastRing 35 = .ok (.goto 4, 3) := by decide +kernel
theorem dX1_leastRing_38 : decode cX1_leastRing 38 = .ok (.iconst (-1), 1) := by decide +kernel
theorem dX1_leastRing_39 : decode cX1_leastRing 39 = .ok (.istore 4, 2) := by decide +kernel
theorem dX1_leastRing_41 : decode cX1_leastRing 41 = .ok (.iload 4, 2) := by decide +kernel
theorem dX1_leastRing_43 : decode cX1_leastRing 43 = .ok (.iconst (-1), 1) := by decide +kernel
theorem dX1_leastRing_44 : decode cX1_leastRing 44 = .ok (.if_icmp .eq 16, 3) := by decide +kernel
theorem dX1_leastRing_47 : decode cX1_leastRing 47 = .ok (.bipush 100, 2) := by decide +kernel
theorem dX1_leastRing_49 : decode cX1_leastRing 49 = .ok (.iload_n 2, 1) := by decide +kernel
theorem dX1_leastRing_50 : decode cX1_leastRing 50 = .ok (.imul, 1) := by decide +kernel
theorem dX1_leastRing_51 : decode cX1_leastRing 51 = .ok (.bipush 10, 2) := by decide +kernel
theorem dX1_leastRing_53 : decode cX1_leastRing 53 = .ok (.iload_n 3, 1) := by decide +kernel
theorem dX1_leastRing_54 : decode cX1_leastRing 54 = .ok (.imul, 1) := by decide +kernel
theorem dX1_leastRing_55 : decode cX1_leastRing 55 = .ok (.iadd, 1) := by decide +kernel
theorem dX1_leastRing_56 : decode cX1_leastRing 56 = .ok (.iload 4, 2) := by decide +kernel
theorem dX1_leastRing_58 : decode cX1_leastRing 58 = .ok (.iadd, 1) := by decide +kernel
theorem dX1_leastRing_59 : decode cX1_leastRing 59 = .ok (.ireturn, 1) := by decide +kernel
theorem dX1_leastRing_60 : decode cX1_leastRing 60 = .ok (.iinc 3 1, 3) := by decide +kernel
theorem dX1_leastRing_63 : decode cX1_leastRing 63 = .ok (.goto (-49), 3) := by decide +kernel
theorem dX1_leastRing_66 : decode cX1_leastRing 66 = .ok (.iinc 2 1, 3) := by decide +kernel
theorem dX1_leastRing_69 : decode cX1_leastRing 69 = .ok (.goto (-62), 3) := by decide +kernel
theorem dX1_leastRing_72 : decode cX1_leastRing 72 = .ok (.iconst (-1), 1) := by decide +kernel
theorem dX1_leastRing_73 : decode cX1_leastRing 73 = .ok (.ireturn, 1) := by decide +kernel
theorem dX1_ringEnd_0 : decode cX1_ringEnd 0 = .ok (.iconst 0, 1) := by decide +kernel
theorem dX1_ringEnd_1 : decode cX1_ringEnd 1 = .ok (.istore 4, 2) := by decide +kernel
theorem dX1_ringEnd_3 : decode cX1_ringEnd 3 = .ok (.iload 4, 2) := by decide +kernel
theorem dX1_ringEnd_5 : decode cX1_ringEnd 5 = .ok (.iload_n 3, 1) := by decide +kernel
theorem dX1_ringEnd_6 : decode cX1_ringEnd 6 = .ok (.if_icmp .ge 32, 3) := by decide +kernel
theorem dX1_ringEnd_9 : decode cX1_ringEnd 9 = .ok (.aload_n 0, 1) := by decide +kernel
theorem dX1_ringEnd_10 : decode cX1_ringEnd 10 = .ok (.iload_n 2, 1) := by decide +kernel
theorem dX1_ringEnd_11 : decode cX1_ringEnd 11 = .ok (.iload 4, 2) := by decide +kernel
theorem dX1_ringEnd_13 : decode cX1_ringEnd 13 = .ok (.invokevirtual 110, 3) := by decide +kernel
theorem dX1_ringEnd_16 : decode cX1_ringEnd 16 = .ok (.ifCond .le 16, 3) := by decide +kernel
theorem dX1_ringEnd_19 : decode cX1_ringEnd 19 = .ok (.aload_n 0, 1) := by decide +kernel
theorem dX1_ringEnd_20 : decode cX1_ringEnd 20 = .ok (.iload 4, 2) := by decide +kernel
theorem dX1_ringEnd_22 : decode cX1_ringEnd 22 = .ok (.iload_n 1, 1) := by decide +kernel
theorem dX1_ringEnd_23 : decode cX1_ringEnd 23 = .ok (.invokevirtual 110, 3) := by decide +kernel
theorem dX1_ringEnd_26 : decode cX1_ringEnd 26 = .ok (.ifCond .le 6, 3) := by decide +kernel
theorem dX1_ringEnd_29 : decode cX1_ringEnd 29 = .ok (.iload 4, 2) := by decide +kernel
theorem dX1_ringEnd_31 : decode cX1_ringEnd 31 = .ok (.ireturn, 1) := by decide +kernel
theorem dX1_ringEnd_32 : decode cX1_ringEnd 32 = .ok (.iinc 4 1, 3) := by decide +kernel
theorem dX1_ringEnd_35 : decode cX1_ringEnd 35 = .ok (.goto (-32), 3) := by decide +kernel
theorem dX1_ringEnd_38 : decode cX1_ringEnd 38 = .ok (.iconst (-1), 1) := by decide +kernel
theorem dX1_ringEnd_39 : decode cX1_ringEnd 39 = .ok (.ireturn, 1) := by decide +kernel
theorem dX2_init_0 : decode cX2_init 0 = .ok (.aload_n 0, 1) := by decide +kernel
theorem dX2_init_1 : decode cX2_init 1 = .ok (.invokespecial 3, 3) := by decide +kernel
theorem dX2_init_4 : decode cX2_init 4 = .ok (.aload_n 0, 1) := by decide +kernel
theorem dX2_init_5 : decode cX2_init 5 = .ok (.bipush 12, 2) := by decide +kernel
theorem dX2_init_7 : decode cX2_init 7 = .ok (.newarray .int, 2) := by decide +kernel
theorem dX2_init_9 : decode cX2_init 9 = .ok (.putfield 9, 3) := by decide +kernel
theorem dX2_init_12 : decode cX2_init 12 = .ok (.aload_n 0, 1) := by decide +kernel
theorem dX2_init_13 : decode cX2_init 13 = .ok (.bipush 12, 2) := by decide +kernel
theorem dX2_init_15 : decode cX2_init 15 = .ok (.newarray .int, 2) := by decide +kernel
theorem dX2_init_17 : decode cX2_init 17 = .ok (.putfield 15, 3) := by decide +kernel
theorem dX2_init_20 : decode cX2_init 20 = .ok (.aload_n 0, 1) := by decide +kernel
theorem dX2_init_21 : decode cX2_init 21 = .ok (.bipush 12, 2) := by decide +kernel
theorem dX2_init_23 : decode cX2_init 23 = .ok (.newarray .int, 2) := by decide +kernel
theorem dX2_init_25 : decode cX2_init 25 = .ok (.putfield 18, 3) := by decide +kernel
theorem dX2_init_28 : decode cX2_init 28 = .ok (.aload_n 0, 1) := by decide +kernel
theorem dX2_init_29 : decode cX2_init 29 = .ok (.aload_n 1, 1) := by decide +kernel
theorem dX2_init_30 : decode cX2_init 30 = .ok (.putfield 21, 3) := by decide +kernel
theorem dX2_init_33 : decode cX2_init 33 = .ok (.return_, 1) := by decide +kernel
theorem dX2_factsOf_0 : decode cX2_factsOf 0 = .ok (.aload_n 0, 1) := by decide +kernel
theorem dX2_factsOf_1 : decode cX2_factsOf 1 = .ok (.getfield 21, 3) := by decide +kernel
theorem dX2_factsOf_4 : decode cX2_factsOf 4 = .ok (.getfield 25, 3) := by decide +kernel
theorem dX2_factsOf_7 : decode cX2_factsOf 7 = .ok (.getfield 31, 3) := by decide +kernel
theorem dX2_factsOf_10 : decode cX2_factsOf 10 = .ok (.iload_n 1, 1) := by decide +kernel
theorem dX2_factsOf_11 : decode cX2_factsOf 11 = .ok (.aaload, 1) := by decide +kernel
theorem dX2_factsOf_12 : decode cX2_factsOf 12 = .ok (.bipush 6, 2) := by decide +kernel
theorem dX2_factsOf_14 : decode cX2_factsOf 14 = .ok (.iaload, 1) := by decide +kernel
theorem dX2_factsOf_15 : decode cX2_factsOf 15 = .ok (.ireturn, 1) := by decide +kernel
theorem dX2_common_0 : decode cX2_common 0 = .ok (.sipush 1023, 3) := by decide +kernel
theorem dX2_common_3 : decode cX2_common 3 = .ok (.istore_n 2, 1) := by decide +kernel
theorem dX2_common_4 : decode cX2_common 4 = .ok (.iconst 0, 1) := by decide +kernel
theorem dX2_common_5 : decode cX2_common 5 = .ok (.istore_n 3, 1) := by decide +kernel
theorem dX2_common_6 : decode cX2_common 6 = .ok (.iload_n 3, 1) := by decide +kernel
theorem dX2_common_7 : decode cX2_common 7 = .ok (.aload_n 0, 1) := by decide +kernel
theorem dX2_common_8 : decode cX2_common 8 = .ok (.getfield 21, 3) := by decide +kernel
theorem dX2_common_11 : decode cX2_common 11 = .ok (.getfield 25, 3) := by decide +kernel
theorem dX2_common_14 : decode cX2_common 14 = .ok (.getfield 37, 3) := by decide +kernel
theorem dX2_common_17 : decode cX2_common 17 = .ok (.if_icmp .ge 32, 3) := by decide +kernel
theorem dX2_common_20 : decode cX2_common 20 = .ok (.iload_n 2, 1) := by decide +kernel
theorem dX2_common_21 : decode cX2_common 21 = .ok (.iload_n 1, 1) := by decide +kernel
theorem dX2_common_22 : decode cX2_common 22 = .ok (.iload_n 3, 1) := by decide +kernel
theorem dX2_common_23 : decode cX2_common 23 = .ok (.ishr, 1) := by decide +kernel
theorem dX2_common_24 : decode cX2_common 24 = .ok (.iconst 1, 1) := by decide +kernel
theorem dX2_common_25 : decode cX2_common 25 = .ok (.iand, 1) := by decide +kernel
theorem dX2_common_26 : decode cX2_common 26 = .ok (.iconst 1, 1) := by decide +kernel
theorem dX2_common_27 : decode cX2_common 27 = .ok (.if_icmp .ne 11, 3) := by decide +kernel
theorem dX2_common_30 : decode cX2_common 30 = .ok (.aload_n 0, 1) := by decide +kernel
theorem dX2_common_31 : decode cX2_common 31 = .ok (.iload_n 3, 1) := by decide +kernel
theorem dX2_common_32 : decode cX2_common 32 = .ok (.invokevirtual 41, 3) := by decide +kernel
theorem dX2_common_35 : decode cX2_common 35 = .ok (.goto 6, 3) := by decide +kernel
theorem dX2_common_38 : decode cX2_common 38 = .ok (.sipush 1023, 3) := by decide +kernel
theorem dX2_common_41 : decode cX2_common 41 = .ok (.iand, 1) := by decide +kernel
theorem dX2_common_42 : decode cX2_common 42 = .ok (.istore_n 2, 1) := by decide +kernel
theorem dX2_common_43 : decode cX2_common 43 = .ok (.iinc 3 1, 3) := by decide +kernel
theorem dX2_common_46 : decode cX2_common 46 = .ok (.goto (-40), 3) := by decide +kernel
theorem dX2_common_49 : decode cX2_common 49 = .ok (.iload_n 2, 1) := by decide +kernel
theorem dX2_common_50 : decode cX2_common 50 = .ok (.ireturn, 1) := by decide +kernel
theorem dX2_sameAs_0 : decode cX2_sameAs 0 = .ok (.iconst 0, 1) := by decide +kernel
theorem dX2_sameAs_1 : decode cX2_sameAs 1 = .ok (.istore_n 2, 1) := by decide +kernel
theorem dX2_sameAs_2 : decode cX2_sameAs 2 = .ok (.iconst 0, 1) := by decide +kernel
theorem dX2_sameAs_3 : decode cX2_sameAs 3 = .ok (.istore_n 3, 1) := by decide +kernel
theorem dX2_sameAs_4 : decode cX2_sameAs 4 = .ok (.iload_n 3, 1) := by decide +kernel
theorem dX2_sameAs_5 : decode cX2_sameAs 5 = .ok (.aload_n 0, 1) := by decide +kernel
theorem dX2_sameAs_6 : decode cX2_sameAs 6 = .ok (.getfield 21, 3) := by decide +kernel
theorem dX2_sameAs_9 : decode cX2_sameAs 9 = .ok (.getfield 25, 3) := by decide +kernel
theorem dX2_sameAs_12 : decode cX2_sameAs 12 = .ok (.getfield 37, 3) := by decide +kernel
theorem dX2_sameAs_15 : decode cX2_sameAs 15 = .ok (.if_icmp .ge 60, 3) := by decide +kernel
theorem dX2_sameAs_18 : decode cX2_sameAs 18 = .ok (.iload_n 3, 1) := by decide +kernel
theorem dX2_sameAs_19 : decode cX2_sameAs 19 = .ok (.iload_n 1, 1) := by decide +kernel
theorem dX2_sameAs_20 : decode cX2_sameAs 20 = .ok (.if_icmp .eq 31, 3) := by decide +kernel
theorem dX2_sameAs_23 : decode cX2_sameAs 23 = .ok (.aload_n 0, 1) := by decide +kernel
theorem dX2_sameAs_24 : decode cX2_sameAs 24 = .ok (.iload_n 3, 1) := by decide +kernel
theorem dX2_sameAs_25 : decode cX2_sameAs 25 = .ok (.invokevirtual 41, 3) := by decide +kernel
theorem dX2_sameAs_28 : decode cX2_sameAs 28 = .ok (.aload_n 0, 1) := by decide +kernel
theorem dX2_sameAs_29 : decode cX2_sameAs 29 = .ok (.iload_n 1, 1) := by decide +kernel
theorem dX2_sameAs_30 : decode cX2_sameAs 30 = .ok (.invokevirtual 41, 3) := by decide +kernel
theorem dX2_sameAs_33 : decode cX2_sameAs 33 = .ok (.if_icmp .ne 18, 3) := by decide +kernel
theorem dX2_sameAs_36 : decode cX2_sameAs 36 = .ok (.aload_n 0, 1) := by decide +kernel
theorem dX2_sameAs_37 : decode cX2_sameAs 37 = .ok (.getfield 21, 3) := by decide +kernel
theorem dX2_sameAs_40 : decode cX2_sameAs 40 = .ok (.iload_n 3, 1) := by decide +kernel
theorem dX2_sameAs_41 : decode cX2_sameAs 41 = .ok (.invokevirtual 45, 3) := by decide +kernel
theorem dX2_sameAs_44 : decode cX2_sameAs 44 = .ok (.ifCond .eq 7, 3) := by decide +kernel
theorem dX2_sameAs_47 : decode cX2_sameAs 47 = .ok (.iconst 1, 1) := by decide +kernel
theorem dX2_sameAs_48 : decode cX2_sameAs 48 = .ok (.goto 4, 3) := by decide +kernel
theorem dX2_sameAs_51 : decode cX2_sameAs 51 = .ok (.iconst 0, 1) := by decide +kernel
theorem dX2_sameAs_52 : decode cX2_sameAs 52 = .ok (.istore 4, 2) := by decide +kernel
theorem dX2_sameAs_54 : decode cX2_sameAs 54 = .ok (.iload_n 2, 1) := by decide +kernel
theorem dX2_sameAs_55 : decode cX2_sameAs 55 = .ok (.iload 4, 2) := by decide +kernel
theorem dX2_sameAs_57 : decode cX2_sameAs 57 = .ok (.ifCond .eq 9, 3) := by decide +kernel
theorem dX2_sameAs_60 : decode cX2_sameAs 60 = .ok (.iconst 1, 1) := by decide +kernel
theorem dX2_sameAs_61 : decode cX2_sameAs 61 = .ok (.iload_n 3, 1) := by decide +kernel
theorem dX2_sameAs_62 : decode cX2_sameAs 62 = .ok (.ishl, 1) := by decide +kernel
theorem dX2_sameAs_63 : decode cX2_sameAs 63 = .ok (.goto 4, 3) := by decide +kernel
theorem dX2_sameAs_66 : decode cX2_sameAs 66 = .ok (.iconst 0, 1) := by decide +kernel
theorem dX2_sameAs_67 : decode cX2_sameAs 67 = .ok (.ior, 1) := by decide +kernel
theorem dX2_sameAs_68 : decode cX2_sameAs 68 = .ok (.istore_n 2, 1) := by decide +kernel
theorem dX2_sameAs_69 : decode cX2_sameAs 69 = .ok (.iinc 3 1, 3) := by decide +kernel
theorem dX2_sameAs_72 : decode cX2_sameAs 72 = .ok (.goto (-68), 3) := by decide +kernel
theorem dX2_sameAs_75 : decode cX2_sameAs 75 = .ok (.iload_n 2, 1) := by decide +kernel
theorem dX2_sameAs_76 : decode cX2_sameAs 76 = .ok (.ireturn, 1) := by decide +kernel
theorem dX2_fewestTelling_0 : decode cX2_fewestTelling 0 = .ok (.aload_n 0, 1) := by decide +kernel
theorem dX2_fewestTelling_1 : decode cX2_fewestTelling 1 = .ok (.iload_n 1, 1) := by decide +kernel
theorem dX2_fewestTelling_2 : decode cX2_fewestTelling 2 = .ok (.invokevirtual 49, 3) := by decide +kernel
theorem dX2_fewestTelling_5 : decode cX2_fewestTelling 5 = .ok (.ifCond .eq 5, 3) := by decide +kernel
theorem dX2_fewestTelling_8 : decode cX2_fewestTelling 8 = .ok (.iconst (-1), 1) := by decide +kernel
theorem dX2_fewestTelling_9 : decode cX2_fewestTelling 9 = .ok (.ireturn, 1) := by decide +kernel
theorem dX2_fewestTelling_10 : decode cX2_fewestTelling 10 = .ok (.aload_n 0, 1) := by decide +kernel
theorem dX2_fewestTelling_11 : decode cX2_fewestTelling 11 = .ok (.getfield 21, 3) := by decide +kernel
theorem dX2_fewestTelling_14 : decode cX2_fewestTelling 14 = .ok (.invokevirtual 52, 3) := by decide +kernel
theorem dX2_fewestTelling_17 : decode cX2_fewestTelling 17 = .ok (.iconst 1, 1) := by decide +kernel
theorem dX2_fewestTelling_18 : decode cX2_fewestTelling 18 = .ok (.iload_n 1, 1) := by decide +kernel
theorem dX2_fewestTelling_19 : decode cX2_fewestTelling 19 = .ok (.ishl, 1) := by decide +kernel
theorem dX2_fewestTelling_20 : decode cX2_fewestTelling 20 = .ok (.iconst (-1), 1) := by decide +kernel
theorem dX2_fewestTelling_21 : decode cX2_fewestTelling 21 = .ok (.ixor, 1) := by decide +kernel
theorem dX2_fewestTelling_22 : decode cX2_fewestTelling 22 = .ok (.iand, 1) := by decide +kernel
theorem dX2_fewestTelling_23 : decode cX2_fewestTelling 23 = .ok (.istore_n 2, 1) := by decide +kernel
theorem dX2_fewestTelling_24 : decode cX2_fewestTelling 24 = .ok (.sipush 1023, 3) := by decide +kernel
theorem dX2_fewestTelling_27 : decode cX2_fewestTelling 27 = .ok (.istore_n 3, 1) := by decide +kernel
theorem dX2_fewestTelling_28 : decode cX2_fewestTelling 28 = .ok (.iconst 0, 1) := by decide +kernel
theorem dX2_fewestTelling_29 : decode cX2_fewestTelling 29 = .ok (.istore 4, 2) := by decide +kernel
theorem dX2_fewestTelling_31 : decode cX2_fewestTelling 31 = .ok (.iload 4, 2) := by decide +kernel
theorem dX2_fewestTelling_33 : decode cX2_fewestTelling 33 = .ok (.sipush 1023, 3) := by decide +kernel
theorem dX2_fewestTelling_36 : decode cX2_fewestTelling 36 = .ok (.if_icmp .ge 35, 3) := by decide +kernel
theorem dX2_fewestTelling_39 : decode cX2_fewestTelling 39 = .ok (.iload 4, 2) := by decide +kernel
theorem dX2_fewestTelling_41 : decode cX2_fewestTelling 41 = .ok (.invokestatic 56, 3) := by decide +kernel
theorem dX2_fewestTelling_44 : decode cX2_fewestTelling 44 = .ok (.iload_n 3, 1) := by decide +kernel
theorem dX2_fewestTelling_45 : decode cX2_fewestTelling 45 = .ok (.invokestatic 56, 3) := by decide +kernel
theorem dX2_fewestTelling_48 : decode cX2_fewestTelling 48 = .ok (.if_icmp .ge 17, 3) := by decide +kernel
theorem dX2_fewestTelling_51 : decode cX2_fewestTelling 51 = .ok (.aload_n 0, 1) := by decide +kernel
theorem dX2_fewestTelling_52 : decode cX2_fewestTelling 52 = .ok (.iload_n 1, 1) := by decide +kernel
theorem dX2_fewestTelling_53 : decode cX2_fewestTelling 53 = .ok (.iload_n 2, 1) := by decide +kernel
theorem dX2_fewestTelling_54 : decode cX2_fewestTelling 54 = .ok (.iload 4, 2) := by decide +kernel
theorem dX2_fewestTelling_56 : decode cX2_fewestTelling 56 = .ok (.invokevirtual 61, 3) := by decide +kernel
theorem dX2_fewestTelling_59 : decode cX2_fewestTelling 59 = .ok (.ifCond .eq 6, 3) := by decide +kernel
theorem dX2_fewestTelling_62 : decode cX2_fewestTelling 62 = .ok (.iload 4, 2) := by decide +kernel
theorem dX2_fewestTelling_64 : decode cX2_fewestTelling 64 = .ok (.istore_n 3, 1) := by decide +kernel
theorem dX2_fewestTelling_65 : decode cX2_fewestTelling 65 = .ok (.iinc 4 1, 3) := by decide +kernel
theorem dX2_fewestTelling_68 : decode cX2_fewestTelling 68 = .ok (.goto (-37), 3) := by decide +kernel
theorem dX2_fewestTelling_71 : decode cX2_fewestTelling 71 = .ok (.iload_n 3, 1) := by decide +kernel
theorem dX2_fewestTelling_72 : decode cX2_fewestTelling 72 = .ok (.ireturn, 1) := by decide +kernel
theorem dX2_tells_0 : decode cX2_tells 0 = .ok (.iconst 0, 1) := by decide +kernel
theorem dX2_tells_1 : decode cX2_tells 1 = .ok (.istore 4, 2) := by decide +kernel
theorem dX2_tells_3 : decode cX2_tells 3 = .ok (.iload 4, 2) := by decide +kernel
theorem dX2_tells_5 : decode cX2_tells 5 = .ok (.aload_n 0, 1) := by decide +kernel
theorem dX2_tells_6 : decode cX2_tells 6 = .ok (.getfield 21, 3) := by decide +kernel
theorem dX2_tells_9 : decode cX2_tells 9 = .ok (.getfield 25, 3) := by decide +kernel
theorem dX2_tells_12 : decode cX2_tells 12 = .ok (.getfield 37, 3) := by decide +kernel
theorem dX2_tells_15 : decode cX2_tells 15 = .ok (.if_icmp .ge 38, 3) := by decide +kernel
theorem dX2_tells_18 : decode cX2_tells 18 = .ok (.iload_n 2, 1) := by decide +kernel
theorem dX2_tells_19 : decode cX2_tells 19 = .ok (.iload 4, 2) := by decide +kernel
theorem dX2_tells_21 : decode cX2_tells 21 = .ok (.ishr, 1) := by decide +kernel
theorem dX2_tells_22 : decode cX2_tells 22 = .ok (.iconst 1, 1) := by decide +kernel
theorem dX2_tells_23 : decode cX2_tells 23 = .ok (.iand, 1) := by decide +kernel
theorem dX2_tells_24 : decode cX2_tells 24 = .ok (.iconst 1, 1) := by decide +kernel
theorem dX2_tells_25 : decode cX2_tells 25 = .ok (.if_icmp .ne 22, 3) := by decide +kernel
theorem dX2_tells_28 : decode cX2_tells 28 = .ok (.aload_n 0, 1) := by decide +kernel
theorem dX2_tells_29 : decode cX2_tells 29 = .ok (.iload 4, 2) := by decide +kernel
theorem dX2_tells_31 : decode cX2_tells 31 = .ok (.invokevirtual 41, 3) := by decide +kernel
theorem dX2_tells_34 : decode cX2_tells 34 = .ok (.aload_n 0, 1) := by decide +kernel
theorem dX2_tells_35 : decode cX2_tells 35 = .ok (.iload_n 1, 1) := by decide +kernel
theorem dX2_tells_36 : decode cX2_tells 36 = .ok (.invokevirtual 41, 3) := by decide +kernel
theorem dX2_tells_39 : decode cX2_tells 39 = .ok (.ixor, 1) := by decide +kernel
theorem dX2_tells_40 : decode cX2_tells 40 = .ok (.iload_n 3, 1) := by decide +kernel
theorem dX2_tells_41 : decode cX2_tells 41 = .ok (.iand, 1) := by decide +kernel
theorem dX2_tells_42 : decode cX2_tells 42 = .ok (.ifCond .ne 5, 3) := by decide +kernel
theorem dX2_tells_45 : decode cX2_tells 45 = .ok (.iconst 0, 1) := by decide +kernel
theorem dX2_tells_46 : decode cX2_tells 46 = .ok (.ireturn, 1) := by decide +kernel
theorem dX2_tells_47 : decode cX2_tells 47 = .ok (.iinc 4 1, 3) := by decide +kernel
theorem dX2_tells_50 : decode cX2_tells 50 = .ok (.goto (-47), 3) := by decide +kernel
theorem dX2_tells_53 : decode cX2_tells 53 = .ok (.iconst 1, 1) := by decide +kernel
theorem dX2_tells_54 : decode cX2_tells 54 = .ok (.ireturn, 1) := by decide +kernel
theorem dX2_fewestForAll_0 : decode cX2_fewestForAll 0 = .ok (.aload_n 0, 1) := by decide +kernel
theorem dX2_fewestForAll_1 : decode cX2_fewestForAll 1 = .ok (.getfield 21, 3) := by decide +kernel
theorem dX2_fewestForAll_4 : decode cX2_fewestForAll 4 = .ok (.invokevirtual 52, 3) := by decide +kernel
theorem dX2_fewestForAll_7 : decode cX2_fewestForAll 7 = .ok (.istore_n 1, 1) := by decide +kernel
theorem dX2_fewestForAll_8 : decode cX2_fewestForAll 8 = .ok (.aload_n 0, 1) := by decide +kernel
theorem dX2_fewestForAll_9 : decode cX2_fewestForAll 9 = .ok (.iload_n 1, 1) := by decide +kernel
theorem dX2_fewestForAll_10 : decode cX2_fewestForAll 10 = .ok (.sipush 1023, 3) := by decide +kernel
theorem dX2_fewestForAll_13 : decode cX2_fewestForAll 13 = .ok (.invokevirtual 65, 3) := by decide +kernel
theorem dX2_fewestForAll_16 : decode cX2_fewestForAll 16 = .ok (.ifCond .ne 5, 3) := by decide +kernel
theorem dX2_fewestForAll_19 : decode cX2_fewestForAll 19 = .ok (.iconst (-1), 1) := by decide +kernel
theorem dX2_fewestForAll_20 : decode cX2_fewestForAll 20 = .ok (.ireturn, 1) := by decide +kernel
theorem dX2_fewestForAll_21 : decode cX2_fewestForAll 21 = .ok (.sipush 1023, 3) := by decide +kernel
theorem dX2_fewestForAll_24 : decode cX2_fewestForAll 24 = .ok (.istore_n 2, 1) := by decide +kernel
theorem dX2_fewestForAll_25 : decode cX2_fewestForAll 25 = .ok (.iconst 0, 1) := by decide +kernel
theorem dX2_fewestForAll_26 : decode cX2_fewestForAll 26 = .ok (.istore_n 3, 1) := by decide +kernel
theorem dX2_fewestForAll_27 : decode cX2_fewestForAll 27 = .ok (.iload_n 3, 1) := by decide +kernel
theorem dX2_fewestForAll_28 : decode cX2_fewestForAll 28 = .ok (.sipush 1023, 3) := by decide +kernel
theorem dX2_fewestForAll_31 : decode cX2_fewestForAll 31 = .ok (.if_icmp .ge 31, 3) := by decide +kernel
theorem dX2_fewestForAll_34 : decode cX2_fewestForAll 34 = .ok (.iload_n 3, 1) := by decide +kernel
theorem dX2_fewestForAll_35 : decode cX2_fewestForAll 35 = .ok (.invokestatic 56, 3) := by decide +kernel
theorem dX2_fewestForAll_38 : decode cX2_fewestForAll 38 = .ok (.iload_n 2, 1) := by decide +kernel
theorem dX2_fewestForAll_39 : decode cX2_fewestForAll 39 = .ok (.invokestatic 56, 3) := by decide +kernel
theorem dX2_fewestForAll_42 : decode cX2_fewestForAll 42 = .ok (.if_icmp .ge 14, 3) := by decide +kernel
theorem dX2_fewestForAll_45 : decode cX2_fewestForAll 45 = .ok (.aload_n 0, 1) := by decide +kernel
theorem dX2_fewestForAll_46 : decode cX2_fewestForAll 46 = .ok (.iload_n 1, 1) := by decide +kernel
theorem dX2_fewestForAll_47 : decode cX2_fewestForAll 47 = .ok (.iload_n 3, 1) := by decide +kernel
theorem dX2_fewestForAll_48 : decode cX2_fewestForAll 48 = .ok (.invokevirtual 65, 3) := by decide +kernel
theorem dX2_fewestForAll_51 : decode cX2_fewestForAll 51 = .ok (.ifCond .eq 5, 3) := by decide +kernel
theorem dX2_fewestForAll_54 : decode cX2_fewestForAll 54 = .ok (.iload_n 3, 1) := by decide +kernel
theorem dX2_fewestForAll_55 : decode cX2_fewestForAll 55 = .ok (.istore_n 2, 1) := by decide +kernel
theorem dX2_fewestForAll_56 : decode cX2_fewestForAll 56 = .ok (.iinc 3 1, 3) := by decide +kernel
theorem dX2_fewestForAll_59 : decode cX2_fewestForAll 59 = .ok (.goto (-32), 3) := by decide +kernel
theorem dX2_fewestForAll_62 : decode cX2_fewestForAll 62 = .ok (.iload_n 2, 1) := by decide +kernel
theorem dX2_fewestForAll_63 : decode cX2_fewestForAll 63 = .ok (.ireturn, 1) := by decide +kernel
theorem dX2_reachesAll_0 : decode cX2_reachesAll 0 = .ok (.iconst 0, 1) := by decide +kernel
theorem dX2_reachesAll_1 : decode cX2_reachesAll 1 = .ok (.istore_n 3, 1) := by decide +kernel
theorem dX2_reachesAll_2 : decode cX2_reachesAll 2 = .ok (.iload_n 3, 1) := by decide +kernel
theorem dX2_reachesAll_3 : decode cX2_reachesAll 3 = .ok (.aload_n 0, 1) := by decide +kernel
theorem dX2_reachesAll_4 : decode cX2_reachesAll 4 = .ok (.getfield 21, 3) := by decide +kernel
theorem dX2_reachesAll_7 : decode cX2_reachesAll 7 = .ok (.getfield 25, 3) := by decide +kernel
theorem dX2_reachesAll_10 : decode cX2_reachesAll 10 = .ok (.getfield 37, 3) := by decide +kernel
theorem dX2_reachesAll_13 : decode cX2_reachesAll 13 = .ok (.if_icmp .ge 30, 3) := by decide +kernel
theorem dX2_reachesAll_16 : decode cX2_reachesAll 16 = .ok (.iload_n 1, 1) := by decide +kernel
theorem dX2_reachesAll_17 : decode cX2_reachesAll 17 = .ok (.iload_n 3, 1) := by decide +kernel
theorem dX2_reachesAll_18 : decode cX2_reachesAll 18 = .ok (.ishr, 1) := by decide +kernel
theorem dX2_reachesAll_19 : decode cX2_reachesAll 19 = .ok (.iconst 1, 1) := by decide +kernel
theorem dX2_reachesAll_20 : decode cX2_reachesAll 20 = .ok (.iand, 1) := by decide +kernel
theorem dX2_reachesAll_21 : decode cX2_reachesAll 21 = .ok (.iconst 1, 1) := by decide +kernel
theorem dX2_reachesAll_22 : decode cX2_reachesAll 22 = .ok (.if_icmp .ne 15, 3) := by decide +kernel
theorem dX2_reachesAll_25 : decode cX2_reachesAll 25 = .ok (.aload_n 0, 1) := by decide +kernel
theorem dX2_reachesAll_26 : decode cX2_reachesAll 26 = .ok (.iload_n 3, 1) := by decide +kernel
theorem dX2_reachesAll_27 : decode cX2_reachesAll 27 = .ok (.invokevirtual 41, 3) := by decide +kernel
theorem dX2_reachesAll_30 : decode cX2_reachesAll 30 = .ok (.iload_n 2, 1) := by decide +kernel
theorem dX2_reachesAll_31 : decode cX2_reachesAll 31 = .ok (.iand, 1) := by decide +kernel
theorem dX2_reachesAll_32 : decode cX2_reachesAll 32 = .ok (.ifCond .ne 5, 3) := by decide +kernel
theorem dX2_reachesAll_35 : decode cX2_reachesAll 35 = .ok (.iconst 0, 1) := by decide +kernel
theorem dX2_reachesAll_36 : decode cX2_reachesAll 36 = .ok (.ireturn, 1) := by decide +kernel
theorem dX2_reachesAll_37 : decode cX2_reachesAll 37 = .ok (.iinc 3 1, 3) := by decide +kernel
theorem dX2_reachesAll_40 : decode cX2_reachesAll 40 = .ok (.goto (-38), 3) := by decide +kernel
theorem dX2_reachesAll_43 : decode cX2_reachesAll 43 = .ok (.iconst 1, 1) := by decide +kernel
theorem dX2_reachesAll_44 : decode cX2_reachesAll 44 = .ok (.ireturn, 1) := by decide +kernel
theorem dX2_leadsTo_0 : decode cX2_leadsTo 0 = .ok (.iconst 0, 1) := by decide +kernel
theorem dX2_leadsTo_1 : decode cX2_leadsTo 1 = .ok (.istore_n 3, 1) := by decide +kernel
theorem dX2_leadsTo_2 : decode cX2_leadsTo 2 = .ok (.iload_n 3, 1) := by decide +kernel
theorem dX2_leadsTo_3 : decode cX2_leadsTo 3 = .ok (.aload_n 0, 1) := by decide +kernel
theorem dX2_leadsTo_4 : decode cX2_leadsTo 4 = .ok (.getfield 21, 3) := by decide +kernel
theorem dX2_leadsTo_7 : decode cX2_leadsTo 7 = .ok (.getfield 25, 3) := by decide +kernel
theorem dX2_leadsTo_10 : decode cX2_leadsTo 10 = .ok (.getfield 37, 3) := by decide +kernel
theorem dX2_leadsTo_13 : decode cX2_leadsTo 13 = .ok (.if_icmp .ge 72, 3) := by decide +kernel
theorem dX2_leadsTo_16 : decode cX2_leadsTo 16 = .ok (.aload_n 0, 1) := by decide +kernel
theorem dX2_leadsTo_17 : decode cX2_leadsTo 17 = .ok (.iload_n 3, 1) := by decide +kernel
theorem dX2_leadsTo_18 : decode cX2_leadsTo 18 = .ok (.invokevirtual 41, 3) := by decide +kernel
theorem dX2_leadsTo_21 : decode cX2_leadsTo 21 = .ok (.iload_n 1, 1) := by decide +kernel
theorem dX2_leadsTo_22 : decode cX2_leadsTo 22 = .ok (.ishr, 1) := by decide +kernel
theorem dX2_leadsTo_23 : decode cX2_leadsTo 23 = .ok (.iconst 1, 1) := by decide +kernel
theorem dX2_leadsTo_24 : decode cX2_leadsTo 24 = .ok (.iand, 1) := by decide +kernel
theorem dX2_leadsTo_25 : decode cX2_leadsTo 25 = .ok (.iconst 1, 1) := by decide +kernel
theorem dX2_leadsTo_26 : decode cX2_leadsTo 26 = .ok (.if_icmp .ne 7, 3) := by decide +kernel
theorem dX2_leadsTo_29 : decode cX2_leadsTo 29 = .ok (.iconst 1, 1) := by decide +kernel
theorem dX2_leadsTo_30 : decode cX2_leadsTo 30 = .ok (.goto 4, 3) := by decide +kernel
theorem dX2_leadsTo_33 : decode cX2_leadsTo 33 = .ok (.iconst 0, 1) := by decide +kernel
theorem dX2_leadsTo_34 : decode cX2_leadsTo 34 = .ok (.istore 4, 2) := by decide +kernel
theorem dX2_leadsTo_36 : decode cX2_leadsTo 36 = .ok (.aload_n 0, 1) := by decide +kernel
theorem dX2_leadsTo_37 : decode cX2_leadsTo 37 = .ok (.iload_n 3, 1) := by decide +kernel
theorem dX2_leadsTo_38 : decode cX2_leadsTo 38 = .ok (.invokevirtual 41, 3) := by decide +kernel
theorem dX2_leadsTo_41 : decode cX2_leadsTo 41 = .ok (.iload_n 2, 1) := by decide +kernel
theorem dX2_leadsTo_42 : decode cX2_leadsTo 42 = .ok (.ishr, 1) := by decide +kernel
theorem dX2_leadsTo_43 : decode cX2_leadsTo 43 = .ok (.iconst 1, 1) := by decide +kernel
theorem dX2_leadsTo_44 : decode cX2_leadsTo 44 = .ok (.iand, 1) := by decide +kernel
theorem dX2_leadsTo_45 : decode cX2_leadsTo 45 = .ok (.iconst 1, 1) := by decide +kernel
theorem dX2_leadsTo_46 : decode cX2_leadsTo 46 = .ok (.if_icmp .ne 7, 3) := by decide +kernel
theorem dX2_leadsTo_49 : decode cX2_leadsTo 49 = .ok (.iconst 1, 1) := by decide +kernel
theorem dX2_leadsTo_50 : decode cX2_leadsTo 50 = .ok (.goto 4, 3) := by decide +kernel
theorem dX2_leadsTo_53 : decode cX2_leadsTo 53 = .ok (.iconst 0, 1) := by decide +kernel
theorem dX2_leadsTo_54 : decode cX2_leadsTo 54 = .ok (.istore 5, 2) := by decide +kernel
theorem dX2_leadsTo_56 : decode cX2_leadsTo 56 = .ok (.iload 4, 2) := by decide +kernel
theorem dX2_leadsTo_58 : decode cX2_leadsTo 58 = .ok (.ifCond .eq 21, 3) := by decide +kernel
theorem dX2_leadsTo_61 : decode cX2_leadsTo 61 = .ok (.iload 5, 2) := by decide +kernel
theorem dX2_leadsTo_63 : decode cX2_leadsTo 63 = .ok (.ifCond .ne 16, 3) := by decide +kernel
theorem dX2_leadsTo_66 : decode cX2_leadsTo 66 = .ok (.aload_n 0, 1) := by decide +kernel
theorem dX2_leadsTo_67 : decode cX2_leadsTo 67 = .ok (.getfield 21, 3) := by decide +kernel
theorem dX2_leadsTo_70 : decode cX2_leadsTo 70 = .ok (.iload_n 3, 1) := by decide +kernel
theorem dX2_leadsTo_71 : decode cX2_leadsTo 71 = .ok (.invokevirtual 45, 3) := by decide +kernel
theorem dX2_leadsTo_74 : decode cX2_leadsTo 74 = .ok (.ifCond .eq 5, 3) := by decide +kernel
theorem dX2_leadsTo_77 : decode cX2_leadsTo 77 = .ok (.iconst 0, 1) := by decide +kernel
theorem dX2_leadsTo_78 : decode cX2_leadsTo 78 = .ok (.ireturn, 1) := by decide +kernel
theorem dX2_leadsTo_79 : decode cX2_leadsTo 79 = .ok (.iinc 3 1, 3) := by decide +kernel
theorem dX2_leadsTo_82 : decode cX2_leadsTo 82 = .ok (.goto (-80), 3) := by decide +kernel
theorem dX2_leadsTo_85 : decode cX2_leadsTo 85 = .ok (.iconst 1, 1) := by decide +kernel
theorem dX2_leadsTo_86 : decode cX2_leadsTo 86 = .ok (.ireturn, 1) := by decide +kernel
theorem dX2_addClue_0 : decode cX2_addClue 0 = .ok (.aload_n 0, 1) := by decide +kernel
theorem dX2_addClue_1 : decode cX2_addClue 1 = .ok (.getfield 69, 3) := by decide +kernel
theorem dX2_addClue_4 : decode cX2_addClue 4 = .ok (.bipush 12, 2) := by decide +kernel
theorem dX2_addClue_6 : decode cX2_addClue 6 = .ok (.if_icmp .lt 5, 3) := by decide +kernel
theorem dX2_addClue_9 : decode cX2_addClue 9 = .ok (.iconst (-1), 1) := by decide +kernel
theorem dX2_addClue_10 : decode cX2_addClue 10 = .ok (.ireturn, 1) := by decide +kernel
theorem dX2_addClue_11 : decode cX2_addClue 11 = .ok (.aload_n 0, 1) := by decide +kernel
theorem dX2_addClue_12 : decode cX2_addClue 12 = .ok (.getfield 9, 3) := by decide +kernel
theorem dX2_addClue_15 : decode cX2_addClue 15 = .ok (.aload_n 0, 1) := by decide +kernel
theorem dX2_addClue_16 : decode cX2_addClue 16 = .ok (.getfield 69, 3) := by decide +kernel
theorem dX2_addClue_19 : decode cX2_addClue 19 = .ok (.iload_n 1, 1) := by decide +kernel
theorem dX2_addClue_20 : decode cX2_addClue 20 = .ok (.iastore, 1) := by decide +kernel
theorem dX2_addClue_21 : decode cX2_addClue 21 = .ok (.aload_n 0, 1) := by decide +kernel
theorem dX2_addClue_22 : decode cX2_addClue 22 = .ok (.getfield 15, 3) := by decide +kernel
theorem dX2_addClue_25 : decode cX2_addClue 25 = .ok (.aload_n 0, 1) := by decide +kernel
theorem dX2_addClue_26 : decode cX2_addClue 26 = .ok (.getfield 69, 3) := by decide +kernel
theorem dX2_addClue_29 : decode cX2_addClue 29 = .ok (.iload_n 2, 1) := by decide +kernel
theorem dX2_addClue_30 : decode cX2_addClue 30 = .ok (.iastore, 1) := by decide +kernel
theorem dX2_addClue_31 : decode cX2_addClue 31 = .ok (.aload_n 0, 1) := by decide +kernel
theorem dX2_addClue_32 : decode cX2_addClue 32 = .ok (.getfield 18, 3) := by decide +kernel
theorem dX2_addClue_35 : decode cX2_addClue 35 = .ok (.aload_n 0, 1) := by decide +kernel
theorem dX2_addClue_36 : decode cX2_addClue 36 = .ok (.getfield 69, 3) := by decide +kernel
theorem dX2_addClue_39 : decode cX2_addClue 39 = .ok (.iload_n 3, 1) := by decide +kernel
theorem dX2_addClue_40 : decode cX2_addClue 40 = .ok (.iastore, 1) := by decide +kernel
theorem dX2_addClue_41 : decode cX2_addClue 41 = .ok (.aload_n 0, 1) := by decide +kernel
theorem dX2_addClue_42 : decode cX2_addClue 42 = .ok (.dup, 1) := by decide +kernel
theorem dX2_addClue_43 : decode cX2_addClue 43 = .ok (.getfield 69, 3) := by decide +kernel
theorem dX2_addClue_46 : decode cX2_addClue 46 = .ok (.iconst 1, 1) := by decide +kernel
theorem dX2_addClue_47 : decode cX2_addClue 47 = .ok (.iadd, 1) := by decide +kernel
theorem dX2_addClue_48 : decode cX2_addClue 48 = .ok (.putfield 69, 3) := by decide +kernel
theorem dX2_addClue_51 : decode cX2_addClue 51 = .ok (.aload_n 0, 1) := by decide +kernel
theorem dX2_addClue_52 : decode cX2_addClue 52 = .ok (.getfield 69, 3) := by decide +kernel
theorem dX2_addClue_55 : decode cX2_addClue 55 = .ok (.ireturn, 1) := by decide +kernel
theorem dX2_holds_0 : decode cX2_holds 0 = .ok (.aload_n 0, 1) := by decide +kernel
theorem dX2_holds_1 : decode cX2_holds 1 = .ok (.getfield 21, 3) := by decide +kernel
theorem dX2_holds_4 : decode cX2_holds 4 = .ok (.getfield 25, 3) := by decide +kernel
theorem dX2_holds_7 : decode cX2_holds 7 = .ok (.astore_n 3, 1) := by decide +kernel
theorem dX2_holds_8 : decode cX2_holds 8 = .ok (.aload_n 0, 1) := by decide +kernel
theorem dX2_holds_9 : decode cX2_holds 9 = .ok (.getfield 15, 3) := by decide +kernel
theorem dX2_holds_12 : decode cX2_holds 12 = .ok (.iload_n 1, 1) := by decide +kernel
theorem dX2_holds_13 : decode cX2_holds 13 = .ok (.iaload, 1) := by decide +kernel
theorem dX2_holds_14 : decode cX2_holds 14 = .ok (.istore 4, 2) := by decide +kernel
theorem dX2_holds_16 : decode cX2_holds 16 = .ok (.aload_n 0, 1) := by decide +kernel
theorem dX2_holds_17 : decode cX2_holds 17 = .ok (.getfield 9, 3) := by decide +kernel
theorem dX2_holds_20 : decode cX2_holds 20 = .ok (.iload_n 1, 1) := by decide +kernel
theorem dX2_holds_21 : decode cX2_holds 21 = .ok (.iaload, 1) := by decide +kernel
theorem dX2_holds_22 : decode cX2_holds 22 = .ok (.tableswitch 113 0 4 #[34, 42, 58, 75, 94], 34) := by decide +kernel
theorem dX2_holds_56 : decode cX2_holds 56 = .ok (.aload_n 0, 1) := by decide +kernel
theorem dX2_holds_57 : decode cX2_holds 57 = .ok (.iload_n 2, 1) := by decide +kernel
theorem dX2_holds_58 : decode cX2_holds 58 = .ok (.iload 4, 2) := by decide +kernel
theorem dX2_holds_60 : decode cX2_holds 60 = .ok (.invokevirtual 72, 3) := by decide +kernel
theorem dX2_holds_63 : decode cX2_holds 63 = .ok (.ireturn, 1) := by decide +kernel
theorem dX2_holds_64 : decode cX2_holds 64 = .ok (.aload_n 0, 1) := by decide +kernel
theorem dX2_holds_65 : decode cX2_holds 65 = .ok (.iload_n 2, 1) := by decide +kernel
theorem dX2_holds_66 : decode cX2_holds 66 = .ok (.iload 4, 2) := by decide +kernel
theorem dX2_holds_68 : decode cX2_holds 68 = .ok (.invokevirtual 72, 3) := by decide +kernel
theorem dX2_holds_71 : decode cX2_holds 71 = .ok (.ifCond .ne 7, 3) := by decide +kernel
theorem dX2_holds_74 : decode cX2_holds 74 = .ok (.iconst 1, 1) := by decide +kernel
theorem dX2_holds_75 : decode cX2_holds 75 = .ok (.goto 4, 3) := by decide +kernel
theorem dX2_holds_78 : decode cX2_holds 78 = .ok (.iconst 0, 1) := by decide +kernel
theorem dX2_holds_79 : decode cX2_holds 79 = .ok (.ireturn, 1) := by decide +kernel
theorem dX2_holds_80 : decode cX2_holds 80 = .ok (.aload_n 3, 1) := by decide +kernel
theorem dX2_holds_81 : decode cX2_holds 81 = .ok (.iload_n 2, 1) := by decide +kernel
theorem dX2_holds_82 : decode cX2_holds 82 = .ok (.iload 4, 2) := by decide +kernel
theorem dX2_holds_84 : decode cX2_holds 84 = .ok (.invokevirtual 75, 3) := by decide +kernel
theorem dX2_holds_87 : decode cX2_holds 87 = .ok (.iconst (-1), 1) := by decide +kernel
theorem dX2_holds_88 : decode cX2_holds 88 = .ok (.if_icmp .eq 7, 3) := by decide +kernel
theorem dX2_holds_91 : decode cX2_holds 91 = .ok (.iconst 1, 1) := by decide +kernel
theorem dX2_holds_92 : decode cX2_holds 92 = .ok (.goto 4, 3) := by decide +kernel
theorem dX2_holds_95 : decode cX2_holds 95 = .ok (.iconst 0, 1) := by decide +kernel
theorem dX2_holds_96 : decode cX2_holds 96 = .ok (.ireturn, 1) := by decide +kernel
theorem dX2_holds_97 : decode cX2_holds 97 = .ok (.aload_n 3, 1) := by decide +kernel
theorem dX2_holds_98 : decode cX2_holds 98 = .ok (.getfield 31, 3) := by decide +kernel
theorem dX2_holds_101 : decode cX2_holds 101 = .ok (.iload_n 2, 1) := by decide +kernel
theorem dX2_holds_102 : decode cX2_holds 102 = .ok (.aaload, 1) := by decide +kernel
theorem dX2_holds_103 : decode cX2_holds 103 = .ok (.iconst 0, 1) := by decide +kernel
theorem dX2_holds_104 : decode cX2_holds 104 = .ok (.iaload, 1) := by decide +kernel
theorem dX2_holds_105 : decode cX2_holds 105 = .ok (.iload 4, 2) := by decide +kernel
theorem dX2_holds_107 : decode cX2_holds 107 = .ok (.if_icmp .lt 7, 3) := by decide +kernel
theorem dX2_holds_110 : decode cX2_holds 110 = .ok (.iconst 1, 1) := by decide +kernel
theorem dX2_holds_111 : decode cX2_holds 111 = .ok (.goto 4, 3) := by decide +kernel
theorem dX2_holds_114 : decode cX2_holds 114 = .ok (.iconst 0, 1) := by decide +kernel
theorem dX2_holds_115 : decode cX2_holds 115 = .ok (.ireturn, 1) := by decide +kernel
theorem dX2_holds_116 : decode cX2_holds 116 = .ok (.aload_n 3, 1) := by decide +kernel
theorem dX2_holds_117 : decode cX2_holds 117 = .ok (.getfield 31, 3) := by decide +kernel
theorem dX2_holds_120 : decode cX2_holds 120 = .ok (.iload_n 2, 1) := by decide +kernel
theorem dX2_holds_121 : decode cX2_holds 121 = .ok (.aaload, 1) := by decide +kernel
theorem dX2_holds_122 : decode cX2_holds 122 = .ok (.iconst 3, 1) := by decide +kernel
theorem dX2_holds_123 : decode cX2_holds 123 = .ok (.iaload, 1) := by decide +kernel
theorem dX2_holds_124 : decode cX2_holds 124 = .ok (.iload 4, 2) := by decide +kernel
theorem dX2_holds_126 : decode cX2_holds 126 = .ok (.if_icmp .lt 7, 3) := by decide +kernel
theorem dX2_holds_129 : decode cX2_holds 129 = .ok (.iconst 1, 1) := by decide +kernel
theorem dX2_holds_130 : decode cX2_holds 130 = .ok (.goto 4, 3) := by decide +kernel
theorem dX2_holds_133 : decode cX2_holds 133 = .ok (.iconst 0, 1) := by decide +kernel
theorem dX2_holds_134 : decode cX2_holds 134 = .ok (.ireturn, 1) := by decide +kernel
theorem dX2_holds_135 : decode cX2_holds 135 = .ok (.iload 4, 2) := by decide +kernel
theorem dX2_holds_137 : decode cX2_holds 137 = .ok (.iload_n 2, 1) := by decide +kernel
theorem dX2_holds_138 : decode cX2_holds 138 = .ok (.if_icmp .eq 32, 3) := by decide +kernel
theorem dX2_holds_141 : decode cX2_holds 141 = .ok (.aload_n 3, 1) := by decide +kernel
theorem dX2_holds_142 : decode cX2_holds 142 = .ok (.iload 4, 2) := by decide +kernel
theorem dX2_holds_144 : decode cX2_holds 144 = .ok (.invokevirtual 79, 3) := by decide +kernel
theorem dX2_holds_147 : decode cX2_holds 147 = .ok (.ifCond .eq 23, 3) := by decide +kernel
theorem dX2_holds_150 : decode cX2_holds 150 = .ok (.aload_n 3, 1) := by decide +kernel
theorem dX2_holds_151 : decode cX2_holds 151 = .ok (.iload_n 2, 1) := by decide +kernel
theorem dX2_holds_152 : decode cX2_holds 152 = .ok (.iload 4, 2) := by decide +kernel
theorem dX2_holds_154 : decode cX2_holds 154 = .ok (.invokevirtual 82, 3) := by decide +kernel
theorem dX2_holds_157 : decode cX2_holds 157 = .ok (.aload_n 0, 1) := by decide +kernel
theorem dX2_holds_158 : decode cX2_holds 158 = .ok (.getfield 18, 3) := by decide +kernel
theorem dX2_holds_161 : decode cX2_holds 161 = .ok (.iload_n 1, 1) := by decide +kernel
theorem dX2_holds_162 : decode cX2_holds 162 = .ok (.iaload, 1) := by decide +kernel
theorem dX2_holds_163 : decode cX2_holds 163 = .ok (.if_icmp .ne 7, 3) := by decide +kernel
theorem dX2_holds_166 : decode cX2_holds 166 = .ok (.iconst 1, 1) := by decide +kernel
theorem dX2_holds_167 : decode cX2_holds 167 = .ok (.goto 4, 3) := by decide +kernel
theorem dX2_holds_170 : decode cX2_holds 170 = .ok (.iconst 0, 1) := by decide +kernel
theorem dX2_holds_171 : decode cX2_holds 171 = .ok (.ireturn, 1) := by decide +kernel
theorem dX2_hasFact_0 : decode cX2_hasFact 0 = .ok (.iload_n 2, 1) := by decide +kernel
theorem dX2_hasFact_1 : decode cX2_hasFact 1 = .ok (.bipush 9, 2) := by decide +kernel
theorem dX2_hasFact_3 : decode cX2_hasFact 3 = .ok (.if_icmp .gt 20, 3) := by decide +kernel
theorem dX2_hasFact_6 : decode cX2_hasFact 6 = .ok (.aload_n 0, 1) := by decide +kernel
theorem dX2_hasFact_7 : decode cX2_hasFact 7 = .ok (.iload_n 1, 1) := by decide +kernel
theorem dX2_hasFact_8 : decode cX2_hasFact 8 = .ok (.invokevirtual 41, 3) := by decide +kernel
theorem dX2_hasFact_11 : decode cX2_hasFact 11 = .ok (.iload_n 2, 1) := by decide +kernel
theorem dX2_hasFact_12 : decode cX2_hasFact 12 = .ok (.ishr, 1) := by decide +kernel
theorem dX2_hasFact_13 : decode cX2_hasFact 13 = .ok (.iconst 1, 1) := by decide +kernel
theorem dX2_hasFact_14 : decode cX2_hasFact 14 = .ok (.iand, 1) := by decide +kernel
theorem dX2_hasFact_15 : decode cX2_hasFact 15 = .ok (.iconst 1, 1) := by decide +kernel
theorem dX2_hasFact_16 : decode cX2_hasFact 16 = .ok (.if_icmp .ne 7, 3) := by decide +kernel
theorem dX2_hasFact_19 : decode cX2_hasFact 19 = .ok (.iconst 1, 1) := by decide +kernel
theorem dX2_hasFact_20 : decode cX2_hasFact 20 = .ok (.goto 4, 3) := by decide +kernel
theorem dX2_hasFact_23 : decode cX2_hasFact 23 = .ok (.iconst 0, 1) := by decide +kernel
theorem dX2_hasFact_24 : decode cX2_hasFact 24 = .ok (.ireturn, 1) := by decide +kernel
theorem dX2_canBe_0 : decode cX2_canBe 0 = .ok (.iconst 0, 1) := by decide +kernel
theorem dX2_canBe_1 : decode cX2_canBe 1 = .ok (.istore_n 2, 1) := by decide +kernel
theorem dX2_canBe_2 : decode cX2_canBe 2 = .ok (.iload_n 2, 1) := by decide +kernel
theorem dX2_canBe_3 : decode cX2_canBe 3 = .ok (.aload_n 0, 1) := by decide +kernel
theorem dX2_canBe_4 : decode cX2_canBe 4 = .ok (.getfield 69, 3) := by decide +kernel
theorem dX2_canBe_7 : decode cX2_canBe 7 = .ok (.if_icmp .ge 20, 3) := by decide +kernel
theorem dX2_canBe_10 : decode cX2_canBe 10 = .ok (.aload_n 0, 1) := by decide +kernel
theorem dX2_canBe_11 : decode cX2_canBe 11 = .ok (.iload_n 2, 1) := by decide +kernel
theorem dX2_canBe_12 : decode cX2_canBe 12 = .ok (.iload_n 1, 1) := by decide +kernel
theorem dX2_canBe_13 : decode cX2_canBe 13 = .ok (.invokevirtual 85, 3) := by decide +kernel
theorem dX2_canBe_16 : decode cX2_canBe 16 = .ok (.ifCond .ne 5, 3) := by decide +kernel
theorem dX2_canBe_19 : decode cX2_canBe 19 = .ok (.iconst 0, 1) := by decide +kernel
theorem dX2_canBe_20 : decode cX2_canBe 20 = .ok (.ireturn, 1) := by decide +kernel
theorem dX2_canBe_21 : decode cX2_canBe 21 = .ok (.iinc 2 1, 3) := by decide +kernel
theorem dX2_canBe_24 : decode cX2_canBe 24 = .ok (.goto (-22), 3) := by decide +kernel
theorem dX2_canBe_27 : decode cX2_canBe 27 = .ok (.iconst 1, 1) := by decide +kernel
theorem dX2_canBe_28 : decode cX2_canBe 28 = .ok (.ireturn, 1) := by decide +kernel
theorem dX2_possible_0 : decode cX2_possible 0 = .ok (.iconst 0, 1) := by decide +kernel
theorem dX2_possible_1 : decode cX2_possible 1 = .ok (.istore_n 1, 1) := by decide +kernel
theorem dX2_possible_2 : decode cX2_possible 2 = .ok (.iconst 0, 1) := by decide +kernel
theorem dX2_possible_3 : decode cX2_possible 3 = .ok (.istore_n 2, 1) := by decide +kernel
theorem dX2_possible_4 : decode cX2_possible 4 = .ok (.iload_n 2, 1) := by decide +kernel
theorem dX2_possible_5 : decode cX2_possible 5 = .ok (.aload_n 0, 1) := by decide +kernel
theorem dX2_possible_6 : decode cX2_possible 6 = .ok (.getfield 21, 3) := by decide +kernel
theorem dX2_possible_9 : decode cX2_possible 9 = .ok (.getfield 25, 3) := by decide +kernel
theorem dX2_possible_12 : decode cX2_possible 12 = .ok (.getfield 37, 3) := by decide +kernel
theorem dX2_possible_15 : decode cX2_possible 15 = .ok (.if_icmp .ge 27, 3) := by decide +kernel
theorem dX2_possible_18 : decode cX2_possible 18 = .ok (.iload_n 1, 1) := by decide +kernel
theorem dX2_possible_19 : decode cX2_possible 19 = .ok (.aload_n 0, 1) := by decide +kernel
theorem dX2_possible_20 : decode cX2_possible 20 = .ok (.iload_n 2, 1) := by decide +kernel
theorem dX2_possible_21 : decode cX2_possible 21 = .ok (.invokevirtual 88, 3) := by decide +kernel
theorem dX2_possible_24 : decode cX2_possible 24 = .ok (.ifCond .eq 9, 3) := by decide +kernel
theorem dX2_possible_27 : decode cX2_possible 27 = .ok (.iconst 1, 1) := by decide +kernel
theorem dX2_possible_28 : decode cX2_possible 28 = .ok (.iload_n 2, 1) := by decide +kernel
theorem dX2_possible_29 : decode cX2_possible 29 = .ok (.ishl, 1) := by decide +kernel
theorem dX2_possible_30 : decode cX2_possible 30 = .ok (.goto 4, 3) := by decide +kernel
theorem dX2_possible_33 : decode cX2_possible 33 = .ok (.iconst 0, 1) := by decide +kernel
theorem dX2_possible_34 : decode cX2_possible 34 = .ok (.ior, 1) := by decide +kernel
theorem dX2_possible_35 : decode cX2_possible 35 = .ok (.istore_n 1, 1) := by decide +kernel
theorem dX2_possible_36 : decode cX2_possible 36 = .ok (.iinc 2 1, 3) := by decide +kernel
theorem dX2_possible_39 : decode cX2_possible 39 = .ok (.goto (-35), 3) := by decide +kernel
theorem dX2_possible_42 : decode cX2_possible 42 = .ok (.iload_n 1, 1) := by decide +kernel
theorem dX2_possible_43 : decode cX2_possible 43 = .ok (.ireturn, 1) := by decide +kernel
theorem dX2_likeliest_0 : decode cX2_likeliest 0 = .ok (.iconst (-1), 1) := by decide +kernel
theorem dX2_likeliest_1 : decode cX2_likeliest 1 = .ok (.istore_n 1, 1) := by decide +kernel
theorem dX2_likeliest_2 : decode cX2_likeliest 2 = .ok (.iconst 0, 1) := by decide +kernel
theorem dX2_likeliest_3 : decode cX2_likeliest 3 = .ok (.istore_n 2, 1) := by decide +kernel
theorem dX2_likeliest_4 : decode cX2_likeliest 4 = .ok (.iconst 0, 1) := by decide +kernel
theorem dX2_likeliest_5 : decode cX2_likeliest 5 = .ok (.istore_n 3, 1) := by decide +kernel
theorem dX2_likeliest_6 : decode cX2_likeliest 6 = .ok (.iload_n 3, 1) := by decide +kernel
theorem dX2_likeliest_7 : decode cX2_likeliest 7 = .ok (.aload_n 0, 1) := by decide +kernel
theorem dX2_likeliest_8 : decode cX2_likeliest 8 = .ok (.getfield 21, 3) := by decide +kernel
theorem dX2_likeliest_11 : decode cX2_likeliest 11 = .ok (.getfield 25, 3) := by decide +kernel
theorem dX2_likeliest_14 : decode cX2_likeliest 14 = .ok (.getfield 37, 3) := by decide +kernel
theorem dX2_likeliest_17 : decode cX2_likeliest 17 = .ok (.if_icmp .ge 54, 3) := by decide +kernel
theorem dX2_likeliest_20 : decode cX2_likeliest 20 = .ok (.aload_n 0, 1) := by decide +kernel
theorem dX2_likeliest_21 : decode cX2_likeliest 21 = .ok (.iload_n 3, 1) := by decide +kernel
theorem dX2_likeliest_22 : decode cX2_likeliest 22 = .ok (.invokevirtual 88, 3) := by decide +kernel
theorem dX2_likeliest_25 : decode cX2_likeliest 25 = .ok (.ifCond .eq 15, 3) := by decide +kernel
theorem dX2_likeliest_28 : decode cX2_likeliest 28 = .ok (.aload_n 0, 1) := by decide +kernel
theorem dX2_likeliest_29 : decode cX2_likeliest 29 = .ok (.getfield 21, 3) := by decide +kernel
theorem dX2_likeliest_32 : decode cX2_likeliest 32 = .ok (.iload_n 3, 1) := by decide +kernel
theorem dX2_likeliest_33 : decode cX2_likeliest 33 = .ok (.iconst 1, 1) := by decide +kernel
theorem dX2_likeliest_34 : decode cX2_likeliest 34 = .ok (.invokevirtual 91, 3) := by decide +kernel
theorem dX2_likeliest_37 : decode cX2_likeliest 37 = .ok (.goto 4, 3) := by decide +kernel
theorem dX2_likeliest_40 : decode cX2_likeliest 40 = .ok (.iconst (-1), 1) := by decide +kernel
theorem dX2_likeliest_41 : decode cX2_likeliest 41 = .ok (.istore 4, 2) := by decide +kernel
theorem dX2_likeliest_43 : decode cX2_likeliest 43 = .ok (.iload 4, 2) := by decide +kernel
theorem dX2_likeliest_45 : decode cX2_likeliest 45 = .ok (.iconst (-1), 1) := by decide +kernel
theorem dX2_likeliest_46 : decode cX2_likeliest 46 = .ok (.if_icmp .eq 19, 3) := by decide +kernel
theorem dX2_likeliest_49 : decode cX2_likeliest 49 = .ok (.iload_n 1, 1) := by decide +kernel
theorem dX2_likeliest_50 : decode cX2_likeliest 50 = .ok (.iconst (-1), 1) := by decide +kernel
theorem dX2_likeliest_51 : decode cX2_likeliest 51 = .ok (.if_icmp .eq 9, 3) := by decide +kernel
theorem dX2_likeliest_54 : decode cX2_likeliest 54 = .ok (.iload 4, 2) := by decide +kernel
theorem dX2_likeliest_56 : decode cX2_likeliest 56 = .ok (.iload_n 2, 1) := by decide +kernel
theorem dX2_likeliest_57 : decode cX2_likeliest 57 = .ok (.if_icmp .le 8, 3) := by decide +kernel
theorem dX2_likeliest_60 : decode cX2_likeliest 60 = .ok (.iload_n 3, 1) := by decide +kernel
theorem dX2_likeliest_61 : decode cX2_likeliest 61 = .ok (.istore_n 1, 1) := by decide +kernel
theorem dX2_likeliest_62 : decode cX2_likeliest 62 = .ok (.iload 4, 2) := by decide +kernel
theorem dX2_likeliest_64 : decode cX2_likeliest 64 = .ok (.istore_n 2, 1) := by decide +kernel
theorem dX2_likeliest_65 : decode cX2_likeliest 65 = .ok (.iinc 3 1, 3) := by decide +kernel
theorem dX2_likeliest_68 : decode cX2_likeliest 68 = .ok (.goto (-62), 3) := by decide +kernel
theorem dX2_likeliest_71 : decode cX2_likeliest 71 = .ok (.iload_n 1, 1) := by decide +kernel
theorem dX2_likeliest_72 : decode cX2_likeliest 72 = .ok (.ireturn, 1) := by decide +kernel
theorem dX2_crossing_0 : decode cX2_crossing 0 = .ok (.iconst 0, 1) := by decide +kernel
theorem dX2_crossing_1 : decode cX2_crossing 1 = .ok (.istore 4, 2) := by decide +kernel
theorem dX2_crossing_3 : decode cX2_crossing 3 = .ok (.iconst 0, 1) := by decide +kernel
theorem dX2_crossing_4 : decode cX2_crossing 4 = .ok (.istore 5, 2) := by decide +kernel
theorem dX2_crossing_6 : decode cX2_crossing 6 = .ok (.iload 5, 2) := by decide +kernel
theorem dX2_crossing_8 : decode cX2_crossing 8 = .ok (.aload_n 0, 1) := by decide +kernel
theorem dX2_crossing_9 : decode cX2_crossing 9 = .ok (.getfield 95, 3) := by decide +kernel
theorem dX2_crossing_12 : decode cX2_crossing 12 = .ok (.iload_n 1, 1) := by decide +kernel
theorem dX2_crossing_13 : decode cX2_crossing 13 = .ok (.iaload, 1) := by decide +kernel
theorem dX2_crossing_14 : decode cX2_crossing 14 = .ok (.if_icmp .ge 86, 3) := by decide +kernel
theorem dX2_crossing_17 : decode cX2_crossing 17 = .ok (.aload_n 0, 1) := by decide +kernel
theorem dX2_crossing_18 : decode cX2_crossing 18 = .ok (.getfield 98, 3) := by decide +kernel
theorem dX2_crossing_21 : decode cX2_crossing 21 = .ok (.iload_n 1, 1) := by decide +kernel
theorem dX2_crossing_22 : decode cX2_crossing 22 = .ok (.aaload, 1) := by decide +kernel
theorem dX2_crossing_23 : decode cX2_crossing 23 = .ok (.iload 5, 2) := by decide +kernel
theorem dX2_crossing_25 : decode cX2_crossing 25 = .ok (.iaload, 1) := by decide +kernel
theorem dX2_crossing_26 : decode cX2_crossing 26 = .ok (.istore 6, 2) := by decide +kernel
theorem dX2_crossing_28 : decode cX2_crossing 28 = .ok (.aload_n 0, 1) := by decide +kernel
theorem dX2_crossing_29 : decode cX2_crossing 29 = .ok (.iload 6, 2) := by decide +kernel
theorem dX2_crossing_31 : decode cX2_crossing 31 = .ok (.aload_n 0, 1) := by decide +kernel
theorem dX2_crossing_32 : decode cX2_crossing 32 = .ok (.getfield 101, 3) := by decide +kernel
theorem dX2_crossing_35 : decode cX2_crossing 35 = .ok (.iload_n 1, 1) := by decide +kernel
theorem dX2_crossing_36 : decode cX2_crossing 36 = .ok (.aaload, 1) := by decide +kernel
theorem dX2_crossing_37 : decode cX2_crossing 37 = .ok (.iload 5, 2) := by decide +kernel
theorem dX2_crossing_39 : decode cX2_crossing 39 = .ok (.iaload, 1) := by decide +kernel
theorem dX2_crossing_40 : decode cX2_crossing 40 = .ok (.iconst 4, 1) := by decide +kernel
theorem dX2_crossing_41 : decode cX2_crossing 41 = .ok (.invokevirtual 104, 3) := by decide +kernel
theorem dX2_crossing_44 : decode cX2_crossing 44 = .ok (.istore 7, 2) := by decide +kernel
theorem dX2_crossing_46 : decode cX2_crossing 46 = .ok (.iload 7, 2) := by decide +kernel
theorem dX2_crossing_48 : decode cX2_crossing 48 = .ok (.iconst (-1), 1) := by decide +kernel
theorem dX2_crossing_49 : decode cX2_crossing 49 = .ok (.if_icmp .eq 24, 3) := by decide +kernel
theorem dX2_crossing_52 : decode cX2_crossing 52 = .ok (.aload_n 2, 1) := by decide +kernel
theorem dX2_crossing_53 : decode cX2_crossing 53 = .ok (.iload_n 3, 1) := by decide +kernel
theorem dX2_crossing_54 : decode cX2_crossing 54 = .ok (.iload 7, 2) := by decide +kernel
theorem dX2_crossing_56 : decode cX2_crossing 56 = .ok (.aload_n 0, 1) := by decide +kernel
theorem dX2_crossing_57 : decode cX2_crossing 57 = .ok (.getfield 108, 3) := by decide +kernel
theorem dX2_crossing_60 : decode cX2_crossing 60 = .ok (.iload 6, 2) := by decide +kernel
theorem dX2_crossing_62 : decode cX2_crossing 62 = .ok (.iaload, 1) := by decide +kernel
theorem dX2_crossing_63 : decode cX2_crossing 63 = .ok (.invokestatic 111, 3) := by decide +kernel
theorem dX2_crossing_66 : decode cX2_crossing 66 = .ok (.ifCond .eq 7, 3) := by decide +kernel
theorem dX2_crossing_69 : decode cX2_crossing 69 = .ok (.iconst 1, 1) := by decide +kernel
theorem dX2_crossing_70 : decode cX2_crossing 70 = .ok (.goto 4, 3) := by decide +kernel
theorem dX2_crossing_73 : decode cX2_crossing 73 = .ok (.iconst 0, 1) := by decide +kernel
theorem dX2_crossing_74 : decode cX2_crossing 74 = .ok (.istore 8, 2) := by decide +kernel
theorem dX2_crossing_76 : decode cX2_crossing 76 = .ok (.iload 4, 2) := by decide +kernel
theorem dX2_crossing_78 : decode cX2_crossing 78 = .ok (.iload 8, 2) := by decide +kernel
theorem dX2_crossing_80 : decode cX2_crossing 80 = .ok (.ifCond .eq 10, 3) := by decide +kernel
theorem dX2_crossing_83 : decode cX2_crossing 83 = .ok (.iconst 1, 1) := by decide +kernel
theorem dX2_crossing_84 : decode cX2_crossing 84 = .ok (.iload 7, 2) := by decide +kernel
theorem dX2_crossing_86 : decode cX2_crossing 86 = .ok (.ishl, 1) := by decide +kernel
theorem dX2_crossing_87 : decode cX2_crossing 87 = .ok (.goto 4, 3) := by decide +kernel
theorem dX2_crossing_90 : decode cX2_crossing 90 = .ok (.iconst 0, 1) := by decide +kernel
theorem dX2_crossing_91 : decode cX2_crossing 91 = .ok (.ior, 1) := by decide +kernel
theorem dX2_crossing_92 : decode cX2_crossing 92 = .ok (.istore 4, 2) := by decide +kernel
theorem dX2_crossing_94 : decode cX2_crossing 94 = .ok (.iinc 5 1, 3) := by decide +kernel
theorem dX2_crossing_97 : decode cX2_crossing 97 = .ok (.goto (-91), 3) := by decide +kernel
theorem dX2_crossing_100 : decode cX2_crossing 100 = .ok (.iload 4, 2) := by decide +kernel
theorem dX2_crossing_102 : decode cX2_crossing 102 = .ok (.ireturn, 1) := by decide +kernel
theorem dX2_hasInYear_0 : decode cX2_hasInYear 0 = .ok (.iconst 0, 1) := by decide +kernel
theorem dX2_hasInYear_1 : decode cX2_hasInYear 1 = .ok (.istore 4, 2) := by decide +kernel
theorem dX2_hasInYear_3 : decode cX2_hasInYear 3 = .ok (.iload 4, 2) := by decide +kernel
theorem dX2_hasInYear_5 : decode cX2_hasInYear 5 = .ok (.aload_n 0, 1) := by decide +kernel
theorem dX2_hasInYear_6 : decode cX2_hasInYear 6 = .ok (.getfield 95, 3) := by decide +kernel
theorem dX2_hasInYear_9 : decode cX2_hasInYear 9 = .ok (.iload_n 1, 1) := by decide +kernel
theorem dX2_hasInYear_10 : decode cX2_hasInYear 10 = .ok (.iaload, 1) := by decide +kernel
theorem dX2_hasInYear_11 : decode cX2_hasInYear 11 = .ok (.if_icmp .ge 53, 3) := by decide +kernel
theorem dX2_hasInYear_14 : decode cX2_hasInYear 14 = .ok (.aload_n 0, 1) := by decide +kernel
theorem dX2_hasInYear_15 : decode cX2_hasInYear 15 = .ok (.getfield 98, 3) := by decide +kernel
theorem dX2_hasInYear_18 : decode cX2_hasInYear 18 = .ok (.iload_n 1, 1) := by decide +kernel
theorem dX2_hasInYear_19 : decode cX2_hasInYear 19 = .ok (.aaload, 1) := by decide +kernel
theorem dX2_hasInYear_20 : decode cX2_hasInYear 20 = .ok (.iload 4, 2) := by decide +kernel
theorem dX2_hasInYear_22 : decode cX2_hasInYear 22 = .ok (.iaload, 1) := by decide +kernel
theorem dX2_hasInYear_23 : decode cX2_hasInYear 23 = .ok (.istore 5, 2) := by decide +kernel
theorem dX2_hasInYear_25 : decode cX2_hasInYear 25 = .ok (.aload_n 0, 1) := by decide +kernel
theorem dX2_hasInYear_26 : decode cX2_hasInYear 26 = .ok (.getfield 108, 3) := by decide +kernel
theorem dX2_hasInYear_29 : decode cX2_hasInYear 29 = .ok (.iload 5, 2) := by decide +kernel
theorem dX2_hasInYear_31 : decode cX2_hasInYear 31 = .ok (.iaload, 1) := by decide +kernel
theorem dX2_hasInYear_32 : decode cX2_hasInYear 32 = .ok (.iload_n 3, 1) := by decide +kernel
theorem dX2_hasInYear_33 : decode cX2_hasInYear 33 = .ok (.if_icmp .ne 25, 3) := by decide +kernel
theorem dX2_hasInYear_36 : decode cX2_hasInYear 36 = .ok (.aload_n 0, 1) := by decide +kernel
theorem dX2_hasInYear_37 : decode cX2_hasInYear 37 = .ok (.iload 5, 2) := by decide +kernel
theorem dX2_hasInYear_39 : decode cX2_hasInYear 39 = .ok (.aload_n 0, 1) := by decide +kernel
theorem dX2_hasInYear_40 : decode cX2_hasInYear 40 = .ok (.getfield 101, 3) := by decide +kernel
theorem dX2_hasInYear_43 : decode cX2_hasInYear 43 = .ok (.iload_n 1, 1) := by decide +kernel
theorem dX2_hasInYear_44 : decode cX2_hasInYear 44 = .ok (.aaload, 1) := by decide +kernel
theorem dX2_hasInYear_45 : decode cX2_hasInYear 45 = .ok (.iload 4, 2) := by decide +kernel
theorem dX2_hasInYear_47 : decode cX2_hasInYear 47 = .ok (.iaload, 1) := by decide +kernel
theorem dX2_hasInYear_48 : decode cX2_hasInYear 48 = .ok (.iconst 4, 1) := by decide +kernel
theorem dX2_hasInYear_49 : decode cX2_hasInYear 49 = .ok (.invokevirtual 104, 3) := by decide +kernel
theorem dX2_hasInYear_52 : decode cX2_hasInYear 52 = .ok (.iload_n 2, 1) := by decide +kernel
theorem dX2_hasInYear_53 : decode cX2_hasInYear 53 = .ok (.if_icmp .ne 5, 3) := by decide +kernel
theorem dX2_hasInYear_56 : decode cX2_hasInYear 56 = .ok (.iconst 1, 1) := by decide +kernel
theorem dX2_hasInYear_57 : decode cX2_hasInYear 57 = .ok (.ireturn, 1) := by decide +kernel
theorem dX2_hasInYear_58 : decode cX2_hasInYear 58 = .ok (.iinc 4 1, 3) := by decide +kernel
theorem dX2_hasInYear_61 : decode cX2_hasInYear 61 = .ok (.goto (-58), 3) := by decide +kernel
theorem dX2_hasInYear_64 : decode cX2_hasInYear 64 = .ok (.iconst 0, 1) := by decide +kernel
theorem dX2_hasInYear_65 : decode cX2_hasInYear 65 = .ok (.ireturn, 1) := by decide +kernel
theorem dX2_crossed_0 : decode cX2_crossed 0 = .ok (.iconst 0, 1) := by decide +kernel
theorem dX2_crossed_1 : decode cX2_crossed 1 = .ok (.istore_n 3, 1) := by decide +kernel
theorem dX2_crossed_2 : decode cX2_crossed 2 = .ok (.iconst 0, 1) := by decide +kernel
theorem dX2_crossed_3 : decode cX2_crossed 3 = .ok (.istore 4, 2) := by decide +kernel
theorem dX2_crossed_5 : decode cX2_crossed 5 = .ok (.iload 4, 2) := by decide +kernel
theorem dX2_crossed_7 : decode cX2_crossed 7 = .ok (.aload_n 2, 1) := by decide +kernel
theorem dX2_crossed_8 : decode cX2_crossed 8 = .ok (.getfield 37, 3) := by decide +kernel
theorem dX2_crossed_11 : decode cX2_crossed 11 = .ok (.if_icmp .ge 28, 3) := by decide +kernel
theorem dX2_crossed_14 : decode cX2_crossed 14 = .ok (.iload_n 3, 1) := by decide +kernel
theorem dX2_crossed_15 : decode cX2_crossed 15 = .ok (.aload_n 0, 1) := by decide +kernel
theorem dX2_crossed_16 : decode cX2_crossed 16 = .ok (.iload_n 1, 1) := by decide +kernel
theorem dX2_crossed_17 : decode cX2_crossed 17 = .ok (.aload_n 2, 1) := by decide +kernel
theorem dX2_crossed_18 : decode cX2_crossed 18 = .ok (.iload 4, 2) := by decide +kernel
theorem dX2_crossed_20 : decode cX2_crossed 20 = .ok (.invokestatic 115, 3) := by decide +kernel
theorem dX2_crossed_23 : decode cX2_crossed 23 = .ok (.ifCond .ne 7, 3) := by decide +kernel
theorem dX2_crossed_26 : decode cX2_crossed 26 = .ok (.iconst 0, 1) := by decide +kernel
theorem dX2_crossed_27 : decode cX2_crossed 27 = .ok (.goto 4, 3) := by decide +kernel
theorem dX2_crossed_30 : decode cX2_crossed 30 = .ok (.iconst 1, 1) := by decide +kernel
theorem dX2_crossed_31 : decode cX2_crossed 31 = .ok (.iadd, 1) := by decide +kernel
theorem dX2_crossed_32 : decode cX2_crossed 32 = .ok (.istore_n 3, 1) := by decide +kernel
theorem dX2_crossed_33 : decode cX2_crossed 33 = .ok (.iinc 4 1, 3) := by decide +kernel
theorem dX2_crossed_36 : decode cX2_crossed 36 = .ok (.goto (-31), 3) := by decide +kernel
theorem dX2_crossed_39 : decode cX2_crossed 39 = .ok (.iload_n 3, 1) := by decide +kernel
theorem dX2_crossed_40 : decode cX2_crossed 40 = .ok (.ireturn, 1) := by decide +kernel
theorem dX2_pairs_0 : decode cX2_pairs 0 = .ok (.iconst 0, 1) := by decide +kernel
theorem dX2_pairs_1 : decode cX2_pairs 1 = .ok (.istore_n 2, 1) := by decide +kernel
theorem dX2_pairs_2 : decode cX2_pairs 2 = .ok (.iconst 0, 1) := by decide +kernel
theorem dX2_pairs_3 : decode cX2_pairs 3 = .ok (.istore_n 3, 1) := by decide +kernel
theorem dX2_pairs_4 : decode cX2_pairs 4 = .ok (.iload_n 3, 1) := by decide +kernel
theorem dX2_pairs_5 : decode cX2_pairs 5 = .ok (.aload_n 0, 1) := by decide +kernel
theorem dX2_pairs_6 : decode cX2_pairs 6 = .ok (.getfield 37, 3) := by decide +kernel
theorem dX2_pairs_9 : decode cX2_pairs 9 = .ok (.if_icmp .ge 18, 3) := by decide +kernel
theorem dX2_pairs_12 : decode cX2_pairs 12 = .ok (.iload_n 2, 1) := by decide +kernel
theorem dX2_pairs_13 : decode cX2_pairs 13 = .ok (.aload_n 0, 1) := by decide +kernel
theorem dX2_pairs_14 : decode cX2_pairs 14 = .ok (.iload_n 3, 1) := by decide +kernel
theorem dX2_pairs_15 : decode cX2_pairs 15 = .ok (.aload_n 1, 1) := by decide +kernel
theorem dX2_pairs_16 : decode cX2_pairs 16 = .ok (.invokestatic 119, 3) := by decide +kernel
theorem dX2_pairs_19 : decode cX2_pairs 19 = .ok (.iadd, 1) := by decide +kernel
theorem dX2_pairs_20 : decode cX2_pairs 20 = .ok (.istore_n 2, 1) := by decide +kernel
theorem dX2_pairs_21 : decode cX2_pairs 21 = .ok (.iinc 3 1, 3) := by decide +kernel
theorem dX2_pairs_24 : decode cX2_pairs 24 = .ok (.goto (-20), 3) := by decide +kernel
theorem dX2_pairs_27 : decode cX2_pairs 27 = .ok (.iload_n 2, 1) := by decide +kernel
theorem dX2_pairs_28 : decode cX2_pairs 28 = .ok (.ireturn, 1) := by decide +kernel
theorem dX2_crossesMost_0 : decode cX2_crossesMost 0 = .ok (.iconst (-1), 1) := by decide +kernel
theorem dX2_crossesMost_1 : decode cX2_crossesMost 1 = .ok (.istore_n 2, 1) := by decide +kernel
theorem dX2_crossesMost_2 : decode cX2_crossesMost 2 = .ok (.iconst 0, 1) := by decide +kernel
theorem dX2_crossesMost_3 : decode cX2_crossesMost 3 = .ok (.istore_n 3, 1) := by decide +kernel
theorem dX2_crossesMost_4 : decode cX2_crossesMost 4 = .ok (.iconst 0, 1) := by decide +kernel
theorem dX2_crossesMost_5 : decode cX2_crossesMost 5 = .ok (.istore 4, 2) := by decide +kernel
theorem dX2_crossesMost_7 : decode cX2_crossesMost 7 = .ok (.iload 4, 2) := by decide +kernel
theorem dX2_crossesMost_9 : decode cX2_crossesMost 9 = .ok (.aload_n 0, 1) := by decide +kernel
theorem dX2_crossesMost_10 : decode cX2_crossesMost 10 = .ok (.getfield 37, 3) := by decide +kernel
theorem dX2_crossesMost_13 : decode cX2_crossesMost 13 = .ok (.if_icmp .ge 30, 3) := by decide +kernel
theorem dX2_crossesMost_16 : decode cX2_crossesMost 16 = .ok (.aload_n 0, 1) := by decide +kernel
theorem dX2_crossesMost_17 : decode cX2_crossesMost 17 = .ok (.iload 4, 2) := by decide +kernel
theorem dX2_crossesMost_19 : decode cX2_crossesMost 19 = .ok (.aload_n 1, 1) := by decide +kernel
theorem dX2_crossesMost_20 : decode cX2_crossesMost 20 = .ok (.invokestatic 119, 3) := by decide +kernel
theorem dX2_crossesMost_23 : decode cX2_crossesMost 23 = .ok (.istore 5, 2) := by decide +kernel
theorem dX2_crossesMost_25 : decode cX2_crossesMost 25 = .ok (.iload 5, 2) := by decide +kernel
theorem dX2_crossesMost_27 : decode cX2_crossesMost 27 = .ok (.iload_n 3, 1) := by decide +kernel
theorem dX2_crossesMost_28 : decode cX2_crossesMost 28 = .ok (.if_icmp .le 9, 3) := by decide +kernel
theorem dX2_crossesMost_31 : decode cX2_crossesMost 31 = .ok (.iload 4, 2) := by decide +kernel
theorem dX2_crossesMost_33 : decode cX2_crossesMost 33 = .ok (.istore_n 2, 1) := by decide +kernel
theorem dX2_crossesMost_34 : decode cX2_crossesMost 34 = .ok (.iload 5, 2) := by decide +kernel
theorem dX2_crossesMost_36 : decode cX2_crossesMost 36 = .ok (.istore_n 3, 1) := by decide +kernel
theorem dX2_crossesMost_37 : decode cX2_crossesMost 37 = .ok (.iinc 4 1, 3) := by decide +kernel
theorem dX2_crossesMost_40 : decode cX2_crossesMost 40 = .ok (.goto (-33), 3) := by decide +kernel
theorem dX2_crossesMost_43 : decode cX2_crossesMost 43 = .ok (.iload_n 2, 1) := by decide +kernel
theorem dX2_crossesMost_44 : decode cX2_crossesMost 44 = .ok (.ireturn, 1) := by decide +kernel
theorem dX3_init_0 : decode cX3_init 0 = .ok (.aload_n 0, 1) := by decide +kernel
theorem dX3_init_1 : decode cX3_init 1 = .ok (.invokespecial 3, 3) := by decide +kernel
theorem dX3_init_4 : decode cX3_init 4 = .ok (.aload_n 0, 1) := by decide +kernel
theorem dX3_init_5 : decode cX3_init 5 = .ok (.aload_n 1, 1) := by decide +kernel
theorem dX3_init_6 : decode cX3_init 6 = .ok (.putfield 9, 3) := by decide +kernel
theorem dX3_init_9 : decode cX3_init 9 = .ok (.aload_n 0, 1) := by decide +kernel
theorem dX3_init_10 : decode cX3_init 10 = .ok (.aload_n 2, 1) := by decide +kernel
theorem dX3_init_11 : decode cX3_init 11 = .ok (.putfield 15, 3) := by decide +kernel
theorem dX3_init_14 : decode cX3_init 14 = .ok (.aload_n 0, 1) := by decide +kernel
theorem dX3_init_15 : decode cX3_init 15 = .ok (.aload_n 3, 1) := by decide +kernel
theorem dX3_init_16 : decode cX3_init 16 = .ok (.putfield 19, 3) := by decide +kernel
theorem dX3_init_19 : decode cX3_init 19 = .ok (.aload_n 0, 1) := by decide +kernel
theorem dX3_init_20 : decode cX3_init 20 = .ok (.aload 4, 2) := by decide +kernel
theorem dX3_init_22 : decode cX3_init 22 = .ok (.putfield 22, 3) := by decide +kernel
theorem dX3_init_25 : decode cX3_init 25 = .ok (.aload_n 0, 1) := by decide +kernel
theorem dX3_init_26 : decode cX3_init 26 = .ok (.aload 4, 2) := by decide +kernel
theorem dX3_init_28 : decode cX3_init 28 = .ok (.arraylength, 1) := by decide +kernel
theorem dX3_init_29 : decode cX3_init 29 = .ok (.newarray .int, 2) := by decide +kernel
theorem dX3_init_31 : decode cX3_init 31 = .ok (.putfield 25, 3) := by decide +kernel
theorem dX3_init_34 : decode cX3_init 34 = .ok (.return_, 1) := by decide +kernel
theorem dX3_read_0 : decode cX3_read 0 = .ok (.aload_n 0, 1) := by decide +kernel
theorem dX3_read_1 : decode cX3_read 1 = .ok (.getfield 22, 3) := by decide +kernel
theorem dX3_read_4 : decode cX3_read 4 = .ok (.iconst 0, 1) := by decide +kernel
theorem dX3_read_5 : decode cX3_read 5 = .ok (.aload_n 0, 1) := by decide +kernel
theorem dX3_read_6 : decode cX3_read 6 = .ok (.getfield 25, 3) := by decide +kernel
theorem dX3_read_9 : decode cX3_read 9 = .ok (.iconst 0, 1) := by decide +kernel
theorem dX3_read_10 : decode cX3_read 10 = .ok (.aload_n 0, 1) := by decide +kernel
theorem dX3_read_11 : decode cX3_read 11 = .ok (.getfield 25, 3) := by decide +kernel
theorem dX3_read_14 : decode cX3_read 14 = .ok (.arraylength, 1) := by decide +kernel
theorem dX3_read_15 : decode cX3_read 15 = .ok (.invokestatic 28, 3) := by decide +kernel
theorem dX3_read_18 : decode cX3_read 18 = .ok (.iconst 0, 1) := by decide +kernel
theorem dX3_read_19 : decode cX3_read 19 = .ok (.istore_n 2, 1) := by decide +kernel
theorem dX3_read_20 : decode cX3_read 20 = .ok (.iconst 0, 1) := by decide +kernel
theorem dX3_read_21 : decode cX3_read 21 = .ok (.istore_n 3, 1) := by decide +kernel
theorem dX3_read_22 : decode cX3_read 22 = .ok (.iload_n 3, 1) := by decide +kernel
theorem dX3_read_23 : decode cX3_read 23 = .ok (.aload_n 0, 1) := by decide +kernel
theorem dX3_read_24 : decode cX3_read 24 = .ok (.getfield 25, 3) := by decide +kernel
theorem dX3_read_27 : decode cX3_read 27 = .ok (.arraylength, 1) := by decide +kernel
theorem dX3_read_28 : decode cX3_read 28 = .ok (.if_icmp .gt 114, 3) := by decide +kernel
theorem dX3_read_31 : decode cX3_read 31 = .ok (.aload_n 1, 1) := by decide +kernel
theorem dX3_read_32 : decode cX3_read 32 = .ok (.invokevirtual 34, 3) := by decide +kernel
theorem dX3_read_35 : decode cX3_read 35 = .ok (.istore 4, 2) := by decide +kernel
theorem dX3_read_37 : decode cX3_read 37 = .ok (.iload 4, 2) := by decide +kernel
theorem dX3_read_39 : decode cX3_read 39 = .ok (.ifCond .ge 7, 3) := by decide +kernel
theorem dX3_read_42 : decode cX3_read 42 = .ok (.iconst (-1), 1) := by decide +kernel
theorem dX3_read_43 : decode cX3_read 43 = .ok (.goto 13, 3) := by decide +kernel
theorem dX3_read_46 : decode cX3_read 46 = .ok (.aload_n 0, 1) := by decide +kernel
theorem dX3_read_47 : decode cX3_read 47 = .ok (.getfield 9, 3) := by decide +kernel
theorem dX3_read_50 : decode cX3_read 50 = .ok (.iload 4, 2) := by decide +kernel
theorem dX3_read_52 : decode cX3_read 52 = .ok (.i2c, 1) := by decide +kernel
theorem dX3_read_53 : decode cX3_read 53 = .ok (.invokevirtual 40, 3) := by decide +kernel
theorem dX3_read_56 : decode cX3_read 56 = .ok (.istore 5, 2) := by decide +kernel
theorem dX3_read_58 : decode cX3_read 58 = .ok (.iload 5, 2) := by decide +kernel
theorem dX3_read_60 : decode cX3_read 60 = .ok (.ifCond .lt 13, 3) := by decide +kernel
theorem dX3_read_63 : decode cX3_read 63 = .ok (.iload 5, 2) := by decide +kernel
theorem dX3_read_65 : decode cX3_read 65 = .ok (.aload_n 0, 1) := by decide +kernel
theorem dX3_read_66 : decode cX3_read 66 = .ok (.getfield 25, 3) := by decide +kernel
theorem dX3_read_69 : decode cX3_read 69 = .ok (.arraylength, 1) := by decide +kernel
theorem dX3_read_70 : decode cX3_read 70 = .ok (.if_icmp .lt 4, 3) := by decide +kernel
theorem dX3_read_73 : decode cX3_read 73 = .ok (.return_, 1) := by decide +kernel
theorem dX3_read_74 : decode cX3_read 74 = .ok (.iload_n 2, 1) := by decide +kernel
theorem dX3_read_75 : decode cX3_read 75 = .ok (.iload 5, 2) := by decide +kernel
theorem dX3_read_77 : decode cX3_read 77 = .ok (.ishr, 1) := by decide +kernel
theorem dX3_read_78 : decode cX3_read 78 = .ok (.iconst 1, 1) := by decide +kernel
theorem dX3_read_79 : decode cX3_read 79 = .ok (.iand, 1) := by decide +kernel
theorem dX3_read_80 : decode cX3_read 80 = .ok (.iconst 1, 1) := by decide +kernel
theorem dX3_read_81 : decode cX3_read 81 = .ok (.if_icmp .ne 12, 3) := by decide +kernel
theorem dX3_read_84 : decode cX3_read 84 = .ok (.aload_n 1, 1) := by decide +kernel
theorem dX3_read_85 : decode cX3_read 85 = .ok (.aload_n 1, 1) := by decide +kernel
theorem dX3_read_86 : decode cX3_read 86 = .ok (.getfield 46, 3) := by decide +kernel
theorem dX3_read_89 : decode cX3_read 89 = .ok (.invokevirtual 50, 3) := by decide +kernel
theorem dX3_read_92 : decode cX3_read 92 = .ok (.return_, 1) := by decide +kernel
theorem dX3_read_93 : decode cX3_read 93 = .ok (.iload_n 2, 1) := by decide +kernel
theorem dX3_read_94 : decode cX3_read 94 = .ok (.iconst 1, 1) := by decide +kernel
theorem dX3_read_95 : decode cX3_read 95 = .ok (.iload 5, 2) := by decide +kernel
theorem dX3_read_97 : decode cX3_read 97 = .ok (.ishl, 1) := by decide +kernel
theorem dX3_read_98 : decode cX3_read 98 = .ok (.ior, 1) := by decide +kernel
theorem dX3_read_99 : decode cX3_read 99 = .ok (.istore_n 2, 1) := by decide +kernel
theorem dX3_read_100 : decode cX3_read 100 = .ok (.aload_n 1, 1) := by decide +kernel
theorem dX3_read_101 : decode cX3_read 101 = .ok (.dup, 1) := by decide +kernel
theorem dX3_read_102 : decode cX3_read 102 = .ok (.getfield 46, 3) := by decide +kernel
theorem dX3_read_105 : decode cX3_read 105 = .ok (.iconst 1, 1) := by decide +kernel
theorem dX3_read_106 : decode cX3_read 106 = .ok (.iadd, 1) := by decide +kernel
theorem dX3_read_107 : decode cX3_read 107 = .ok (.putfield 46, 3) := by decide +kernel
theorem dX3_read_110 : decode cX3_read 110 = .ok (.aload_n 0, 1) := by decide +kernel
theorem dX3_read_111 : decode cX3_read 111 = .ok (.getfield 25, 3) := by decide +kernel
theorem dX3_read_114 : decode cX3_read 114 = .ok (.iload 5, 2) := by decide +kernel
theorem dX3_read_116 : decode cX3_read 116 = .ok (.aload_n 1, 1) := by decide +kernel
theorem dX3_read_117 : decode cX3_read 117 = .ok (.iconst 2, 1) := by decide +kernel
theorem dX3_read_118 : decode cX3_read 118 = .ok (.aload_n 0, 1) := by decide +kernel
theorem dX3_read_119 : decode cX3_read 119 = .ok (.getfield 15, 3) := by decide +kernel
theorem dX3_read_122 : decode cX3_read 122 = .ok (.iload 5, 2) := by decide +kernel
theorem dX3_read_124 : decode cX3_read 124 = .ok (.iaload, 1) := by decide +kernel
theorem dX3_read_125 : decode cX3_read 125 = .ok (.aload_n 0, 1) := by decide +kernel
theorem dX3_read_126 : decode cX3_read 126 = .ok (.getfield 19, 3) := by decide +kernel
theorem dX3_read_129 : decode cX3_read 129 = .ok (.iload 5, 2) := by decide +kernel
theorem dX3_read_131 : decode cX3_read 131 = .ok (.iaload, 1) := by decide +kernel
theorem dX3_read_132 : decode cX3_read 132 = .ok (.invokevirtual 54, 3) := by decide +kernel
theorem dX3_read_135 : decode cX3_read 135 = .ok (.iastore, 1) := by decide +kernel
theorem dX3_read_136 : decode cX3_read 136 = .ok (.iinc 3 1, 3) := by decide +kernel
theorem dX3_read_139 : decode cX3_read 139 = .ok (.goto (-117), 3) := by decide +kernel
theorem dX3_read_142 : decode cX3_read 142 = .ok (.return_, 1) := by decide +kernel
theorem dX4_init_0 : decode cX4_init 0 = .ok (.aload_n 0, 1) := by decide +kernel
theorem dX4_init_1 : decode cX4_init 1 = .ok (.invokespecial 3, 3) := by decide +kernel
theorem dX4_init_4 : decode cX4_init 4 = .ok (.aload_n 0, 1) := by decide +kernel
theorem dX4_init_5 : decode cX4_init 5 = .ok (.bipush 12, 2) := by decide +kernel
theorem dX4_init_7 : decode cX4_init 7 = .ok (.bipush 7, 2) := by decide +kernel
theorem dX4_init_9 : decode cX4_init 9 = .ok (.multianewarray 9 2, 4) := by decide +kernel
theorem dX4_init_13 : decode cX4_init 13 = .ok (.putfield 11, 3) := by decide +kernel
theorem dX4_init_16 : decode cX4_init 16 = .ok (.aload_n 0, 1) := by decide +kernel
theorem dX4_init_17 : decode cX4_init 17 = .ok (.bipush 12, 2) := by decide +kernel
theorem dX4_init_19 : decode cX4_init 19 = .ok (.newarray .int, 2) := by decide +kernel
theorem dX4_init_21 : decode cX4_init 21 = .ok (.putfield 16, 3) := by decide +kernel
theorem dX4_init_24 : decode cX4_init 24 = .ok (.aload_n 0, 1) := by decide +kernel
theorem dX4_init_25 : decode cX4_init 25 = .ok (.bipush 12, 2) := by decide +kernel
theorem dX4_init_27 : decode cX4_init 27 = .ok (.bipush 6, 2) := by decide +kernel
theorem dX4_init_29 : decode cX4_init 29 = .ok (.multianewarray 9 2, 4) := by decide +kernel
theorem dX4_init_33 : decode cX4_init 33 = .ok (.putfield 20, 3) := by decide +kernel
theorem dX4_init_36 : decode cX4_init 36 = .ok (.aload_n 0, 1) := by decide +kernel
theorem dX4_init_37 : decode cX4_init 37 = .ok (.bipush 12, 2) := by decide +kernel
theorem dX4_init_39 : decode cX4_init 39 = .ok (.bipush 6, 2) := by decide +kernel
theorem dX4_init_41 : decode cX4_init 41 = .ok (.multianewarray 9 2, 4) := by decide +kernel
theorem dX4_init_45 : decode cX4_init 45 = .ok (.putfield 23, 3) := by decide +kernel
theorem dX4_init_48 : decode cX4_init 48 = .ok (.aload_n 0, 1) := by decide +kernel
theorem dX4_init_49 : decode cX4_init 49 = .ok (.bipush 20, 2) := by decide +kernel
theorem dX4_init_51 : decode cX4_init 51 = .ok (.newarray .int, 2) := by decide +kernel
theorem dX4_init_53 : decode cX4_init 53 = .ok (.putfield 26, 3) := by decide +kernel
theorem dX4_init_56 : decode cX4_init 56 = .ok (.aload_n 0, 1) := by decide +kernel
theorem dX4_init_57 : decode cX4_init 57 = .ok (.bipush 20, 2) := by decide +kernel
theorem dX4_init_59 : decode cX4_init 59 = .ok (.newarray .int, 2) := by decide +kernel
theorem dX4_init_61 : decode cX4_init 61 = .ok (.putfield 29, 3) := by decide +kernel
theorem dX4_init_64 : decode cX4_init 64 = .ok (.aload_n 0, 1) := by decide +kernel
theorem dX4_init_65 : decode cX4_init 65 = .ok (.bipush 20, 2) := by decide +kernel
theorem dX4_init_67 : decode cX4_init 67 = .ok (.newarray .int, 2) := by decide +kernel
theorem dX4_init_69 : decode cX4_init 69 = .ok (.putfield 32, 3) := by decide +kernel
theorem dX4_init_72 : decode cX4_init 72 = .ok (.aload_n 0, 1) := by decide +kernel
theorem dX4_init_73 : decode cX4_init 73 = .ok (.bipush 20, 2) := by decide +kernel
theorem dX4_init_75 : decode cX4_init 75 = .ok (.newarray .int, 2) := by decide +kernel
theorem dX4_init_77 : decode cX4_init 77 = .ok (.putfield 35, 3) := by decide +kernel
theorem dX4_init_80 : decode cX4_init 80 = .ok (.aload_n 0, 1) := by decide +kernel
theorem dX4_init_81 : decode cX4_init 81 = .ok (.bipush 20, 2) := by decide +kernel
theorem dX4_init_83 : decode cX4_init 83 = .ok (.newarray .int, 2) := by decide +kernel
theorem dX4_init_85 : decode cX4_init 85 = .ok (.putfield 38, 3) := by decide +kernel
theorem dX4_init_88 : decode cX4_init 88 = .ok (.aload_n 0, 1) := by decide +kernel
theorem dX4_init_89 : decode cX4_init 89 = .ok (.bipush 80, 2) := by decide +kernel
theorem dX4_init_91 : decode cX4_init 91 = .ok (.iconst 5, 1) := by decide +kernel
theorem dX4_init_92 : decode cX4_init 92 = .ok (.multianewarray 9 2, 4) := by decide +kernel
theorem dX4_init_96 : decode cX4_init 96 = .ok (.putfield 41, 3) := by decide +kernel
theorem dX4_init_99 : decode cX4_init 99 = .ok (.aload_n 0, 1) := by decide +kernel
theorem dX4_init_100 : decode cX4_init 100 = .ok (.bipush 80, 2) := by decide +kernel
theorem dX4_init_102 : decode cX4_init 102 = .ok (.newarray .int, 2) := by decide +kernel
theorem dX4_init_104 : decode cX4_init 104 = .ok (.putfield 44, 3) := by decide +kernel
theorem dX4_init_107 : decode cX4_init 107 = .ok (.return_, 1) := by decide +kernel
theorem dX4_hasLeaf_0 : decode cX4_hasLeaf 0 = .ok (.iload_n 1, 1) := by decide +kernel
theorem dX4_hasLeaf_1 : decode cX4_hasLeaf 1 = .ok (.ifCond .lt 15, 3) := by decide +kernel
theorem dX4_hasLeaf_4 : decode cX4_hasLeaf 4 = .ok (.iload_n 1, 1) := by decide +kernel
theorem dX4_hasLeaf_5 : decode cX4_hasLeaf 5 = .ok (.aload_n 0, 1) := by decide +kernel
theorem dX4_hasLeaf_6 : decode cX4_hasLeaf 6 = .ok (.getfield 47, 3) := by decide +kernel
theorem dX4_hasLeaf_9 : decode cX4_hasLeaf 9 = .ok (.if_icmp .ge 7, 3) := by decide +kernel
theorem dX4_hasLeaf_12 : decode cX4_hasLeaf 12 = .ok (.iconst 1, 1) := by decide +kernel
theorem dX4_hasLeaf_13 : decode cX4_hasLeaf 13 = .ok (.goto 4, 3) := by decide +kernel
theorem dX4_hasLeaf_16 : decode cX4_hasLeaf 16 = .ok (.iconst 0, 1) := by decide +kernel
theorem dX4_hasLeaf_17 : decode cX4_hasLeaf 17 = .ok (.ireturn, 1) := by decide +kernel
theorem dX4_hasFork_0 : decode cX4_hasFork 0 = .ok (.iload_n 1, 1) := by decide +kernel
theorem dX4_hasFork_1 : decode cX4_hasFork 1 = .ok (.ifCond .lt 15, 3) := by decide +kernel
theorem dX4_hasFork_4 : decode cX4_hasFork 4 = .ok (.iload_n 1, 1) := by decide +kernel
theorem dX4_hasFork_5 : decode cX4_hasFork 5 = .ok (.aload_n 0, 1) := by decide +kernel
theorem dX4_hasFork_6 : decode cX4_hasFork 6 = .ok (.getfield 51, 3) := by decide +kernel
theorem dX4_hasFork_9 : decode cX4_hasFork 9 = .ok (.if_icmp .ge 7, 3) := by decide +kernel
theorem dX4_hasFork_12 : decode cX4_hasFork 12 = .ok (.iconst 1, 1) := by decide +kernel
theorem dX4_hasFork_13 : decode cX4_hasFork 13 = .ok (.goto 4, 3) := by decide +kernel
theorem dX4_hasFork_16 : decode cX4_hasFork 16 = .ok (.iconst 0, 1) := by decide +kernel
theorem dX4_hasFork_17 : decode cX4_hasFork 17 = .ok (.ireturn, 1) := by decide +kernel
theorem dX4_hasBranch_0 : decode cX4_hasBranch 0 = .ok (.aload_n 0, 1) := by decide +kernel
theorem dX4_hasBranch_1 : decode cX4_hasBranch 1 = .ok (.iload_n 1, 1) := by decide +kernel
theorem dX4_hasBranch_2 : decode cX4_hasBranch 2 = .ok (.invokevirtual 54, 3) := by decide +kernel
theorem dX4_hasBranch_5 : decode cX4_hasBranch 5 = .ok (.ifCond .eq 21, 3) := by decide +kernel
theorem dX4_hasBranch_8 : decode cX4_hasBranch 8 = .ok (.iload_n 2, 1) := by decide +kernel
theorem dX4_hasBranch_9 : decode cX4_hasBranch 9 = .ok (.ifCond .lt 17, 3) := by decide +kernel
theorem dX4_hasBranch_12 : decode cX4_hasBranch 12 = .ok (.iload_n 2, 1) := by decide +kernel
theorem dX4_hasBranch_13 : decode cX4_hasBranch 13 = .ok (.aload_n 0, 1) := by decide +kernel
theorem dX4_hasBranch_14 : decode cX4_hasBranch 14 = .ok (.getfield 32, 3) := by decide +kernel
theorem dX4_hasBranch_17 : decode cX4_hasBranch 17 = .ok (.iload_n 1, 1) := by decide +kernel
theorem dX4_hasBranch_18 : decode cX4_hasBranch 18 = .ok (.iaload, 1) := by decide +kernel
theorem dX4_hasBranch_19 : decode cX4_hasBranch 19 = .ok (.if_icmp .ge 7, 3) := by decide +kernel
theorem dX4_hasBranch_22 : decode cX4_hasBranch 22 = .ok (.iconst 1, 1) := by decide +kernel
theorem dX4_hasBranch_23 : decode cX4_hasBranch 23 = .ok (.goto 4, 3) := by decide +kernel
theorem dX4_hasBranch_26 : decode cX4_hasBranch 26 = .ok (.iconst 0, 1) := by decide +kernel
theorem dX4_hasBranch_27 : decode cX4_hasBranch 27 = .ok (.ireturn, 1) := by decide +kernel
theorem dX4_item_0 : decode cX4_item 0 = .ok (.aload_n 0, 1) := by decide +kernel
theorem dX4_item_1 : decode cX4_item 1 = .ok (.getfield 41, 3) := by decide +kernel
theorem dX4_item_4 : decode cX4_item 4 = .ok (.iload_n 1, 1) := by decide +kernel
theorem dX4_item_5 : decode cX4_item 5 = .ok (.iconst 4, 1) := by decide +kernel
theorem dX4_item_6 : decode cX4_item 6 = .ok (.imul, 1) := by decide +kernel
theorem dX4_item_7 : decode cX4_item 7 = .ok (.iload_n 2, 1) := by decide +kernel
theorem dX4_item_8 : decode cX4_item 8 = .ok (.iadd, 1) := by decide +kernel
theorem dX4_item_9 : decode cX4_item 9 = .ok (.aaload, 1) := by decide +kernel
theorem dX4_item_10 : decode cX4_item 10 = .ok (.iload_n 3, 1) := by decide +kernel
theorem dX4_item_11 : decode cX4_item 11 = .ok (.iaload, 1) := by decide +kernel
theorem dX4_item_12 : decode cX4_item 12 = .ok (.ireturn, 1) := by decide +kernel
theorem dX4_weight_0 : decode cX4_weight 0 = .ok (.aload_n 0, 1) := by decide +kernel
theorem dX4_weight_1 : decode cX4_weight 1 = .ok (.iload_n 1, 1) := by decide +kernel
theorem dX4_weight_2 : decode cX4_weight 2 = .ok (.iload_n 2, 1) := by decide +kernel
theorem dX4_weight_3 : decode cX4_weight 3 = .ok (.iconst 0, 1) := by decide +kernel
theorem dX4_weight_4 : decode cX4_weight 4 = .ok (.invokevirtual 58, 3) := by decide +kernel
theorem dX4_weight_7 : decode cX4_weight 7 = .ok (.ireturn, 1) := by decide +kernel
theorem dX4_target_0 : decode cX4_target 0 = .ok (.aload_n 0, 1) := by decide +kernel
theorem dX4_target_1 : decode cX4_target 1 = .ok (.getfield 44, 3) := by decide +kernel
theorem dX4_target_4 : decode cX4_target 4 = .ok (.iload_n 1, 1) := by decide +kernel
theorem dX4_target_5 : decode cX4_target 5 = .ok (.iconst 4, 1) := by decide +kernel
theorem dX4_target_6 : decode cX4_target 6 = .ok (.imul, 1) := by decide +kernel
theorem dX4_target_7 : decode cX4_target 7 = .ok (.iload_n 2, 1) := by decide +kernel
theorem dX4_target_8 : decode cX4_target 8 = .ok (.iadd, 1) := by decide +kernel
theorem dX4_target_9 : decode cX4_target 9 = .ok (.iaload, 1) := by decide +kernel
theorem dX4_target_10 : decode cX4_target 10 = .ok (.ireturn, 1) := by decide +kernel
theorem dX4_allMask_0 : decode cX4_allMask 0 = .ok (.iconst 1, 1) := by decide +kernel
theorem dX4_allMask_1 : decode cX4_allMask 1 = .ok (.aload_n 0, 1) := by decide +kernel
theorem dX4_allMask_2 : decode cX4_allMask 2 = .ok (.getfield 32, 3) := by decide +kernel
theorem dX4_allMask_5 : decode cX4_allMask 5 = .ok (.iload_n 1, 1) := by decide +kernel
theorem dX4_allMask_6 : decode cX4_allMask 6 = .ok (.iaload, 1) := by decide +kernel
theorem dX4_allMask_7 : decode cX4_allMask 7 = .ok (.ishl, 1) := by decide +kernel
theorem dX4_allMask_8 : decode cX4_allMask 8 = .ok (.iconst 1, 1) := by decide +kernel
theorem dX4_allMask_9 : decode cX4_allMask 9 = .ok (.isub, 1) := by decide +kernel
theorem dX4_allMask_10 : decode cX4_allMask 10 = .ok (.ireturn, 1) := by decide +kernel
theorem dX4_weights_0 : decode cX4_weights 0 = .ok (.iconst 0, 1) := by decide +kernel
theorem dX4_weights_1 : decode cX4_weights 1 = .ok (.istore_n 3, 1) := by decide +kernel
theorem dX4_weights_2 : decode cX4_weights 2 = .ok (.iconst 0, 1) := by decide +kernel
theorem dX4_weights_3 : decode cX4_weights 3 = .ok (.istore 4, 2) := by decide +kernel
theorem dX4_weights_5 : decode cX4_weights 5 = .ok (.iload 4, 2) := by decide +kernel
theorem dX4_weights_7 : decode cX4_weights 7 = .ok (.aload_n 0, 1) := by decide +kernel
theorem dX4_weights_8 : decode cX4_weights 8 = .ok (.getfield 32, 3) := by decide +kernel
theorem dX4_weights_11 : decode cX4_weights 11 = .ok (.iload_n 1, 1) := by decide +kernel
theorem dX4_weights_12 : decode cX4_weights 12 = .ok (.iaload, 1) := by decide +kernel
theorem dX4_weights_13 : decode cX4_weights 13 = .ok (.if_icmp .ge 33, 3) := by decide +kernel
theorem dX4_weights_16 : decode cX4_weights 16 = .ok (.iload_n 3, 1) := by decide +kernel
theorem dX4_weights_17 : decode cX4_weights 17 = .ok (.iload_n 2, 1) := by decide +kernel
theorem dX4_weights_18 : decode cX4_weights 18 = .ok (.iload 4, 2) := by decide +kernel
theorem dX4_weights_20 : decode cX4_weights 20 = .ok (.ishr, 1) := by decide +kernel
theorem dX4_weights_21 : decode cX4_weights 21 = .ok (.iconst 1, 1) := by decide +kernel
theorem dX4_weights_22 : decode cX4_weights 22 = .ok (.iand, 1) := by decide +kernel
theorem dX4_weights_23 : decode cX4_weights 23 = .ok (.iconst 1, 1) := by decide +kernel
theorem dX4_weights_24 : decode cX4_weights 24 = .ok (.if_icmp .ne 13, 3) := by decide +kernel
theorem dX4_weights_27 : decode cX4_weights 27 = .ok (.aload_n 0, 1) := by decide +kernel
theorem dX4_weights_28 : decode cX4_weights 28 = .ok (.iload_n 1, 1) := by decide +kernel
theorem dX4_weights_29 : decode cX4_weights 29 = .ok (.iload 4, 2) := by decide +kernel
theorem dX4_weights_31 : decode cX4_weights 31 = .ok (.invokevirtual 62, 3) := by decide +kernel
theorem dX4_weights_34 : decode cX4_weights 34 = .ok (.goto 4, 3) := by decide +kernel
theorem dX4_weights_37 : decode cX4_weights 37 = .ok (.iconst 0, 1) := by decide +kernel
theorem dX4_weights_38 : decode cX4_weights 38 = .ok (.iadd, 1) := by decide +kernel
theorem dX4_weights_39 : decode cX4_weights 39 = .ok (.istore_n 3, 1) := by decide +kernel
theorem dX4_weights_40 : decode cX4_weights 40 = .ok (.iinc 4 1, 3) := by decide +kernel
theorem dX4_weights_43 : decode cX4_weights 43 = .ok (.goto (-38), 3) := by decide +kernel
theorem dX4_weights_46 : decode cX4_weights 46 = .ok (.iload_n 3, 1) := by decide +kernel
theorem dX4_weights_47 : decode cX4_weights 47 = .ok (.ireturn, 1) := by decide +kernel
theorem dX4_stepAt_0 : decode cX4_stepAt 0 = .ok (.iconst 0, 1) := by decide +kernel
theorem dX4_stepAt_1 : decode cX4_stepAt 1 = .ok (.istore_n 3, 1) := by decide +kernel
theorem dX4_stepAt_2 : decode cX4_stepAt 2 = .ok (.iload_n 3, 1) := by decide +kernel
theorem dX4_stepAt_3 : decode cX4_stepAt 3 = .ok (.aload_n 0, 1) := by decide +kernel
theorem dX4_stepAt_4 : decode cX4_stepAt 4 = .ok (.getfield 16, 3) := by decide +kernel
theorem dX4_stepAt_7 : decode cX4_stepAt 7 = .ok (.iload_n 1, 1) := by decide +kernel
theorem dX4_stepAt_8 : decode cX4_stepAt 8 = .ok (.iaload, 1) := by decide +kernel
theorem dX4_stepAt_9 : decode cX4_stepAt 9 = .ok (.if_icmp .ge 23, 3) := by decide +kernel
theorem dX4_stepAt_12 : decode cX4_stepAt 12 = .ok (.aload_n 0, 1) := by decide +kernel
theorem dX4_stepAt_13 : decode cX4_stepAt 13 = .ok (.getfield 20, 3) := by decide +kernel
theorem dX4_stepAt_16 : decode cX4_stepAt 16 = .ok (.iload_n 1, 1) := by decide +kernel
theorem dX4_stepAt_17 : decode cX4_stepAt 17 = .ok (.aaload, 1) := by decide +kernel
theorem dX4_stepAt_18 : decode cX4_stepAt 18 = .ok (.iload_n 3, 1) := by decide +kernel
theorem dX4_stepAt_19 : decode cX4_stepAt 19 = .ok (.iaload, 1) := by decide +kernel
theorem dX4_stepAt_20 : decode cX4_stepAt 20 = .ok (.iload_n 2, 1) := by decide +kernel
theorem dX4_stepAt_21 : decode cX4_stepAt 21 = .ok (.if_icmp .ne 5, 3) := by decide +kernel
theorem dX4_stepAt_24 : decode cX4_stepAt 24 = .ok (.iload_n 3, 1) := by decide +kernel
theorem dX4_stepAt_25 : decode cX4_stepAt 25 = .ok (.ireturn, 1) := by decide +kernel
theorem dX4_stepAt_26 : decode cX4_stepAt 26 = .ok (.iinc 3 1, 3) := by decide +kernel
theorem dX4_stepAt_29 : decode cX4_stepAt 29 = .ok (.goto (-27), 3) := by decide +kernel
theorem dX4_stepAt_32 : decode cX4_stepAt 32 = .ok (.iconst (-1), 1) := by decide +kernel
theorem dX4_stepAt_33 : decode cX4_stepAt 33 = .ok (.ireturn, 1) := by decide +kernel
theorem dX4_parting_0 : decode cX4_parting 0 = .ok (.iconst 0, 1) := by decide +kernel
theorem dX4_parting_1 : decode cX4_parting 1 = .ok (.istore_n 3, 1) := by decide +kernel
theorem dX4_parting_2 : decode cX4_parting 2 = .ok (.iconst 0, 1) := by decide +kernel
theorem dX4_parting_3 : decode cX4_parting 3 = .ok (.istore 4, 2) := by decide +kernel
theorem dX4_parting_5 : decode cX4_parting 5 = .ok (.iload 4, 2) := by decide +kernel
theorem dX4_parting_7 : decode cX4_parting 7 = .ok (.aload_n 0, 1) := by decide +kernel
theorem dX4_parting_8 : decode cX4_parting 8 = .ok (.getfield 16, 3) := by decide +kernel
theorem dX4_parting_11 : decode cX4_parting 11 = .ok (.iload_n 1, 1) := by decide +kernel
theorem dX4_parting_12 : decode cX4_parting 12 = .ok (.iaload, 1) := by decide +kernel
theorem dX4_parting_13 : decode cX4_parting 13 = .ok (.if_icmp .ge 51, 3) := by decide +kernel
theorem dX4_parting_16 : decode cX4_parting 16 = .ok (.iload 4, 2) := by decide +kernel
theorem dX4_parting_18 : decode cX4_parting 18 = .ok (.aload_n 0, 1) := by decide +kernel
theorem dX4_parting_19 : decode cX4_parting 19 = .ok (.getfield 16, 3) := by decide +kernel
theorem dX4_parting_22 : decode cX4_parting 22 = .ok (.iload_n 2, 1) := by decide +kernel
theorem dX4_parting_23 : decode cX4_parting 23 = .ok (.iaload, 1) := by decide +kernel
theorem dX4_parting_24 : decode cX4_parting 24 = .ok (.if_icmp .ge 40, 3) := by decide +kernel
theorem dX4_parting_27 : decode cX4_parting 27 = .ok (.aload_n 0, 1) := by decide +kernel
theorem dX4_parting_28 : decode cX4_parting 28 = .ok (.getfield 20, 3) := by decide +kernel
theorem dX4_parting_31 : decode cX4_parting 31 = .ok (.iload_n 1, 1) := by decide +kernel
theorem dX4_parting_32 : decode cX4_parting 32 = .ok (.aaload, 1) := by decide +kernel
theorem dX4_parting_33 : decode cX4_parting 33 = .ok (.iload 4, 2) := by decide +kernel
theorem dX4_parting_35 : decode cX4_parting 35 = .ok (.iaload, 1) := by decide +kernel
theorem dX4_parting_36 : decode cX4_parting 36 = .ok (.aload_n 0, 1) := by decide +kernel
theorem dX4_parting_37 : decode cX4_parting 37 = .ok (.getfield 20, 3) := by decide +kernel
theorem dX4_parting_40 : decode cX4_parting 40 = .ok (.iload_n 2, 1) := by decide +kernel
theorem dX4_parting_41 : decode cX4_parting 41 = .ok (.aaload, 1) := by decide +kernel
theorem dX4_parting_42 : decode cX4_parting 42 = .ok (.iload 4, 2) := by decide +kernel
theorem dX4_parting_44 : decode cX4_parting 44 = .ok (.iaload, 1) := by decide +kernel
theorem dX4_parting_45 : decode cX4_parting 45 = .ok (.if_icmp .ne 13, 3) := by decide +kernel
theorem dX4_parting_48 : decode cX4_parting 48 = .ok (.aload_n 0, 1) := by decide +kernel
theorem dX4_parting_49 : decode cX4_parting 49 = .ok (.getfield 20, 3) := by decide +kernel
theorem dX4_parting_52 : decode cX4_parting 52 = .ok (.iload_n 1, 1) := by decide +kernel
theorem dX4_parting_53 : decode cX4_parting 53 = .ok (.aaload, 1) := by decide +kernel
theorem dX4_parting_54 : decode cX4_parting 54 = .ok (.iload 4, 2) := by decide +kernel
theorem dX4_parting_56 : decode cX4_parting 56 = .ok (.iaload, 1) := by decide +kernel
theorem dX4_parting_57 : decode cX4_parting 57 = .ok (.istore_n 3, 1) := by decide +kernel
theorem dX4_parting_58 : decode cX4_parting 58 = .ok (.iinc 4 1, 3) := by decide +kernel
theorem dX4_parting_61 : decode cX4_parting 61 = .ok (.goto (-56), 3) := by decide +kernel
theorem dX4_parting_64 : decode cX4_parting 64 = .ok (.iload_n 3, 1) := by decide +kernel
theorem dX4_parting_65 : decode cX4_parting 65 = .ok (.ireturn, 1) := by decide +kernel
theorem dX5_init_0 : decode cX5_init 0 = .ok (.aload_n 0, 1) := by decide +kernel
theorem dX5_init_1 : decode cX5_init 1 = .ok (.invokespecial 3, 3) := by decide +kernel
theorem dX5_init_4 : decode cX5_init 4 = .ok (.aload_n 0, 1) := by decide +kernel
theorem dX5_init_5 : decode cX5_init 5 = .ok (.new 9, 3) := by decide +kernel
theorem dX5_init_8 : decode cX5_init 8 = .ok (.dup, 1) := by decide +kernel
theorem dX5_init_9 : decode cX5_init 9 = .ok (.ldc 11, 2) := by decide +kernel
theorem dX5_init_11 : decode cX5_init 11 = .ok (.getstatic 13, 3) := by decide +kernel
theorem dX5_init_14 : decode cX5_init 14 = .ok (.getstatic 19, 3) := by decide +kernel
theorem dX5_init_17 : decode cX5_init 17 = .ok (.getstatic 22, 3) := by decide +kernel
theorem dX5_init_20 : decode cX5_init 20 = .ok (.invokespecial 25, 3) := by decide +kernel
theorem dX5_init_23 : decode cX5_init 23 = .ok (.putfield 28, 3) := by decide +kernel
theorem dX5_init_26 : decode cX5_init 26 = .ok (.aload_n 0, 1) := by decide +kernel
theorem dX5_init_27 : decode cX5_init 27 = .ok (.new 9, 3) := by decide +kernel
theorem dX5_init_30 : decode cX5_init 30 = .ok (.dup, 1) := by decide +kernel
theorem dX5_init_31 : decode cX5_init 31 = .ok (.ldc 32, 2) := by decide +kernel
theorem dX5_init_33 : decode cX5_init 33 = .ok (.getstatic 34, 3) := by decide +kernel
theorem dX5_init_36 : decode cX5_init 36 = .ok (.getstatic 37, 3) := by decide +kernel
theorem dX5_init_39 : decode cX5_init 39 = .ok (.getstatic 40, 3) := by decide +kernel
theorem dX5_init_42 : decode cX5_init 42 = .ok (.invokespecial 25, 3) := by decide +kernel
theorem dX5_init_45 : decode cX5_init 45 = .ok (.putfield 43, 3) := by decide +kernel
theorem dX5_init_48 : decode cX5_init 48 = .ok (.aload_n 0, 1) := by decide +kernel
theorem dX5_init_49 : decode cX5_init 49 = .ok (.new 9, 3) := by decide +kernel
theorem dX5_init_52 : decode cX5_init 52 = .ok (.dup, 1) := by decide +kernel
theorem dX5_init_53 : decode cX5_init 53 = .ok (.ldc 46, 2) := by decide +kernel
theorem dX5_init_55 : decode cX5_init 55 = .ok (.getstatic 48, 3) := by decide +kernel
theorem dX5_init_58 : decode cX5_init 58 = .ok (.getstatic 51, 3) := by decide +kernel
theorem dX5_init_61 : decode cX5_init 61 = .ok (.getstatic 54, 3) := by decide +kernel
theorem dX5_init_64 : decode cX5_init 64 = .ok (.invokespecial 25, 3) := by decide +kernel
theorem dX5_init_67 : decode cX5_init 67 = .ok (.putfield 57, 3) := by decide +kernel
theorem dX5_init_70 : decode cX5_init 70 = .ok (.aload_n 0, 1) := by decide +kernel
theorem dX5_init_71 : decode cX5_init 71 = .ok (.bipush 6, 2) := by decide +kernel
theorem dX5_init_73 : decode cX5_init 73 = .ok (.newarray .int, 2) := by decide +kernel
theorem dX5_init_75 : decode cX5_init 75 = .ok (.putfield 60, 3) := by decide +kernel
theorem dX5_init_78 : decode cX5_init 78 = .ok (.aload_n 0, 1) := by decide +kernel
theorem dX5_init_79 : decode cX5_init 79 = .ok (.bipush 6, 2) := by decide +kernel
theorem dX5_init_81 : decode cX5_init 81 = .ok (.newarray .int, 2) := by decide +kernel
theorem dX5_init_83 : decode cX5_init 83 = .ok (.putfield 63, 3) := by decide +kernel
theorem dX5_init_86 : decode cX5_init 86 = .ok (.aload_n 0, 1) := by decide +kernel
theorem dX5_init_87 : decode cX5_init 87 = .ok (.aload_n 1, 1) := by decide +kernel
theorem dX5_init_88 : decode cX5_init 88 = .ok (.putfield 66, 3) := by decide +kernel
theorem dX5_init_91 : decode cX5_init 91 = .ok (.return_, 1) := by decide +kernel
theorem dX5_read_0 : decode cX5_read 0 = .ok (.aload_n 1, 1) := by decide +kernel
theorem dX5_read_1 : decode cX5_read 1 = .ok (.iconst 0, 1) := by decide +kernel
theorem dX5_read_2 : decode cX5_read 2 = .ok (.putfield 70, 3) := by decide +kernel
theorem dX5_read_5 : decode cX5_read 5 = .ok (.aload_n 1, 1) := by decide +kernel
theorem dX5_read_6 : decode cX5_read 6 = .ok (.iconst 0, 1) := by decide +kernel
theorem dX5_read_7 : decode cX5_read 7 = .ok (.putfield 76, 3) := by decide +kernel
theorem dX5_read_10 : decode cX5_read 10 = .ok (.aload_n 0, 1) := by decide +kernel
theorem dX5_read_11 : decode cX5_read 11 = .ok (.getfield 66, 3) := by decide +kernel
theorem dX5_read_14 : decode cX5_read 14 = .ok (.invokevirtual 79, 3) := by decide +kernel
theorem dX5_read_17 : decode cX5_read 17 = .ok (.aload_n 0, 1) := by decide +kernel
theorem dX5_read_18 : decode cX5_read 18 = .ok (.aload_n 1, 1) := by decide +kernel
theorem dX5_read_19 : decode cX5_read 19 = .ok (.iconst 0, 1) := by decide +kernel
theorem dX5_read_20 : decode cX5_read 20 = .ok (.invokevirtual 84, 3) := by decide +kernel
theorem dX5_read_23 : decode cX5_read 23 = .ok (.pop, 1) := by decide +kernel
theorem dX5_read_24 : decode cX5_read 24 = .ok (.aload_n 0, 1) := by decide +kernel
theorem dX5_read_25 : decode cX5_read 25 = .ok (.getfield 66, 3) := by decide +kernel
theorem dX5_read_28 : decode cX5_read 28 = .ok (.invokevirtual 88, 3) := by decide +kernel
theorem dX5_read_31 : decode cX5_read 31 = .ok (.ireturn, 1) := by decide +kernel
theorem dX5_readNode_0 : decode cX5_readNode 0 = .ok (.aload_n 0, 1) := by decide +kernel
theorem dX5_readNode_1 : decode cX5_readNode 1 = .ok (.getfield 66, 3) := by decide +kernel
theorem dX5_readNode_4 : decode cX5_readNode 4 = .ok (.invokevirtual 92, 3) := by decide +kernel
theorem dX5_readNode_7 : decode cX5_readNode 7 = .ok (.istore_n 3, 1) := by decide +kernel
theorem dX5_readNode_8 : decode cX5_readNode 8 = .ok (.iload_n 3, 1) := by decide +kernel
theorem dX5_readNode_9 : decode cX5_readNode 9 = .ok (.bipush 108, 2) := by decide +kernel
theorem dX5_readNode_11 : decode cX5_readNode 11 = .ok (.if_icmp .ne 19, 3) := by decide +kernel
theorem dX5_readNode_14 : decode cX5_readNode 14 = .ok (.aload_n 1, 1) := by decide +kernel
theorem dX5_readNode_15 : decode cX5_readNode 15 = .ok (.getfield 70, 3) := by decide +kernel
theorem dX5_readNode_18 : decode cX5_readNode 18 = .ok (.bipush 12, 2) := by decide +kernel
theorem dX5_readNode_20 : decode cX5_readNode 20 = .ok (.if_icmp .ge 10, 3) := by decide +kernel
theorem dX5_readNode_23 : decode cX5_readNode 23 = .ok (.aload_n 0, 1) := by decide +kernel
theorem dX5_readNode_24 : decode cX5_readNode 24 = .ok (.aload_n 1, 1) := by decide +kernel
theorem dX5_readNode_25 : decode cX5_readNode 25 = .ok (.iload_n 2, 1) := by decide +kernel
theorem dX5_readNode_26 : decode cX5_readNode 26 = .ok (.invokevirtual 95, 3) := by decide +kernel
theorem dX5_readNode_29 : decode cX5_readNode 29 = .ok (.ireturn, 1) := by decide +kernel
theorem dX5_readNode_30 : decode cX5_readNode 30 = .ok (.iload_n 3, 1) := by decide +kernel
theorem dX5_readNode_31 : decode cX5_readNode 31 = .ok (.bipush 102, 2) := by decide +kernel
theorem dX5_readNode_33 : decode cX5_readNode 33 = .ok (.if_icmp .ne 25, 3) := by decide +kernel
theorem dX5_readNode_36 : decode cX5_readNode 36 = .ok (.iload_n 2, 1) := by decide +kernel
theorem dX5_readNode_37 : decode cX5_readNode 37 = .ok (.bipush 6, 2) := by decide +kernel
theorem dX5_readNode_39 : decode cX5_readNode 39 = .ok (.if_icmp .ge 19, 3) := by decide +kernel
theorem dX5_readNode_42 : decode cX5_readNode 42 = .ok (.aload_n 1, 1) := by decide +kernel
theorem dX5_readNode_43 : decode cX5_readNode 43 = .ok (.getfield 76, 3) := by decide +kernel
theorem dX5_readNode_46 : decode cX5_readNode 46 = .ok (.bipush 20, 2) := by decide +kernel
theorem dX5_readNode_48 : decode cX5_readNode 48 = .ok (.if_icmp .ge 10, 3) := by decide +kernel
theorem dX5_readNode_51 : decode cX5_readNode 51 = .ok (.aload_n 0, 1) := by decide +kernel
theorem dX5_readNode_52 : decode cX5_readNode 52 = .ok (.aload_n 1, 1) := by decide +kernel
theorem dX5_readNode_53 : decode cX5_readNode 53 = .ok (.iload_n 2, 1) := by decide +kernel
theorem dX5_readNode_54 : decode cX5_readNode 54 = .ok (.invokevirtual 98, 3) := by decide +kernel
theorem dX5_readNode_57 : decode cX5_readNode 57 = .ok (.ireturn, 1) := by decide +kernel
theorem dX5_readNode_58 : decode cX5_readNode 58 = .ok (.aload_n 0, 1) := by decide +kernel
theorem dX5_readNode_59 : decode cX5_readNode 59 = .ok (.getfield 66, 3) := by decide +kernel
theorem dX5_readNode_62 : decode cX5_readNode 62 = .ok (.aload_n 0, 1) := by decide +kernel
theorem dX5_readNode_63 : decode cX5_readNode 63 = .ok (.getfield 66, 3) := by decide +kernel
theorem dX5_readNode_66 : decode cX5_readNode 66 = .ok (.getfield 101, 3) := by decide +kernel
theorem dX5_readNode_69 : decode cX5_readNode 69 = .ok (.invokevirtual 104, 3) := by decide +kernel
theorem dX5_readNode_72 : decode cX5_readNode 72 = .ok (.iconst (-1), 1) := by decide +kernel
theorem dX5_readNode_73 : decode cX5_readNode 73 = .ok (.ireturn, 1) := by decide +kernel
theorem dX5_readLeaf_0 : decode cX5_readLeaf 0 = .ok (.aload_n 0, 1) := by decide +kernel
theorem dX5_readLeaf_1 : decode cX5_readLeaf 1 = .ok (.getfield 66, 3) := by decide +kernel
theorem dX5_readLeaf_4 : decode cX5_readLeaf 4 = .ok (.dup, 1) := by decide +kernel
theorem dX5_readLeaf_5 : decode cX5_readLeaf 5 = .ok (.getfield 101, 3) := by decide +kernel
theorem dX5_readLeaf_8 : decode cX5_readLeaf 8 = .ok (.iconst 1, 1) := by decide +kernel
theorem dX5_readLeaf_9 : decode cX5_readLeaf 9 = .ok (.iadd, 1) := by decide +kernel
theorem dX5_readLeaf_10 : decode cX5_readLeaf 10 = .ok (.putfield 101, 3) := by decide +kernel
theorem dX5_readLeaf_13 : decode cX5_readLeaf 13 = .ok (.aload_n 0, 1) := by decide +kernel
theorem dX5_readLeaf_14 : decode cX5_readLeaf 14 = .ok (.getfield 28, 3) := by decide +kernel
theorem dX5_readLeaf_17 : decode cX5_readLeaf 17 = .ok (.aload_n 0, 1) := by decide +kernel
theorem dX5_readLeaf_18 : decode cX5_readLeaf 18 = .ok (.getfield 66, 3) := by decide +kernel
theorem dX5_readLeaf_21 : decode cX5_readLeaf 21 = .ok (.invokevirtual 108, 3) := by decide +kernel
theorem dX5_readLeaf_24 : decode cX5_readLeaf 24 = .ok (.aload_n 1, 1) := by decide +kernel
theorem dX5_readLeaf_25 : decode cX5_readLeaf 25 = .ok (.getfield 70, 3) := by decide +kernel
theorem dX5_readLeaf_28 : decode cX5_readLeaf 28 = .ok (.istore_n 3, 1) := by decide +kernel
theorem dX5_readLeaf_29 : decode cX5_readLeaf 29 = .ok (.aload_n 1, 1) := by decide +kernel
theorem dX5_readLeaf_30 : decode cX5_readLeaf 30 = .ok (.dup, 1) := by decide +kernel
theorem dX5_readLeaf_31 : decode cX5_readLeaf 31 = .ok (.getfield 70, 3) := by decide +kernel
theorem dX5_readLeaf_34 : decode cX5_readLeaf 34 = .ok (.iconst 1, 1) := by decide +kernel
theorem dX5_readLeaf_35 : decode cX5_readLeaf 35 = .ok (.iadd, 1) := by decide +kernel
theorem dX5_readLeaf_36 : decode cX5_readLeaf 36 = .ok (.putfield 70, 3) := by decide +kernel
theorem dX5_readLeaf_39 : decode cX5_readLeaf 39 = .ok (.aload_n 1, 1) := by decide +kernel
theorem dX5_readLeaf_40 : decode cX5_readLeaf 40 = .ok (.getfield 112, 3) := by decide +kernel
theorem dX5_readLeaf_43 : decode cX5_readLeaf 43 = .ok (.iload_n 3, 1) := by decide +kernel
theorem dX5_readLeaf_44 : decode cX5_readLeaf 44 = .ok (.aaload, 1) := by decide +kernel
theorem dX5_readLeaf_45 : decode cX5_readLeaf 45 = .ok (.astore 4, 2) := by decide +kernel
theorem dX5_readLeaf_47 : decode cX5_readLeaf 47 = .ok (.aload 4, 2) := by decide +kernel
theorem dX5_readLeaf_49 : decode cX5_readLeaf 49 = .ok (.iconst 0, 1) := by decide +kernel
theorem dX5_readLeaf_50 : decode cX5_readLeaf 50 = .ok (.aload_n 0, 1) := by decide +kernel
theorem dX5_readLeaf_51 : decode cX5_readLeaf 51 = .ok (.getfield 28, 3) := by decide +kernel
theorem dX5_readLeaf_54 : decode cX5_readLeaf 54 = .ok (.getfield 116, 3) := by decide +kernel
theorem dX5_readLeaf_57 : decode cX5_readLeaf 57 = .ok (.iconst 0, 1) := by decide +kernel
theorem dX5_readLeaf_58 : decode cX5_readLeaf 58 = .ok (.iaload, 1) := by decide +kernel
theorem dX5_readLeaf_59 : decode cX5_readLeaf 59 = .ok (.iastore, 1) := by decide +kernel
theorem dX5_readLeaf_60 : decode cX5_readLeaf 60 = .ok (.aload 4, 2) := by decide +kernel
theorem dX5_readLeaf_62 : decode cX5_readLeaf 62 = .ok (.iconst 1, 1) := by decide +kernel
theorem dX5_readLeaf_63 : decode cX5_readLeaf 63 = .ok (.aload_n 0, 1) := by decide +kernel
theorem dX5_readLeaf_64 : decode cX5_readLeaf 64 = .ok (.getfield 28, 3) := by decide +kernel
theorem dX5_readLeaf_67 : decode cX5_readLeaf 67 = .ok (.getfield 116, 3) := by decide +kernel
theorem dX5_readLeaf_70 : decode cX5_readLeaf 70 = .ok (.iconst 1, 1) := by decide +kernel
theorem dX5_readLeaf_71 : decode cX5_readLeaf 71 = .ok (.iaload, 1) := by decide +kernel
theorem dX5_readLeaf_72 : decode cX5_readLeaf 72 = .ok (.iastore, 1) := by decide +kernel
theorem dX5_readLeaf_73 : decode cX5_readLeaf 73 = .ok (.aload 4, 2) := by decide +kernel
theorem dX5_readLeaf_75 : decode cX5_readLeaf 75 = .ok (.iconst 2, 1) := by decide +kernel
theorem dX5_readLeaf_76 : decode cX5_readLeaf 76 = .ok (.iconst 0, 1) := by decide +kernel
theorem dX5_readLeaf_77 : decode cX5_readLeaf 77 = .ok (.iastore, 1) := by decide +kernel
theorem dX5_readLeaf_78 : decode cX5_readLeaf 78 = .ok (.aload 4, 2) := by decide +kernel
theorem dX5_readLeaf_80 : decode cX5_readLeaf 80 = .ok (.iconst 3, 1) := by decide +kernel
theorem dX5_readLeaf_81 : decode cX5_readLeaf 81 = .ok (.aload_n 0, 1) := by decide +kernel
theorem dX5_readLeaf_82 : decode cX5_readLeaf 82 = .ok (.getfield 28, 3) := by decide +kernel
theorem dX5_readLeaf_85 : decode cX5_readLeaf 85 = .ok (.getfield 116, 3) := by decide +kernel
theorem dX5_readLeaf_88 : decode cX5_readLeaf 88 = .ok (.iconst 2, 1) := by decide +kernel
theorem dX5_readLeaf_89 : decode cX5_readLeaf 89 = .ok (.iaload, 1) := by decide +kernel
theorem dX5_readLeaf_90 : decode cX5_readLeaf 90 = .ok (.iastore, 1) := by decide +kernel
theorem dX5_readLeaf_91 : decode cX5_readLeaf 91 = .ok (.aload 4, 2) := by decide +kernel
theorem dX5_readLeaf_93 : decode cX5_readLeaf 93 = .ok (.iconst 4, 1) := by decide +kernel
theorem dX5_readLeaf_94 : decode cX5_readLeaf 94 = .ok (.aload_n 0, 1) := by decide +kernel
theorem dX5_readLeaf_95 : decode cX5_readLeaf 95 = .ok (.getfield 28, 3) := by decide +kernel
theorem dX5_readLeaf_98 : decode cX5_readLeaf 98 = .ok (.getfield 116, 3) := by decide +kernel
theorem dX5_readLeaf_101 : decode cX5_readLeaf 101 = .ok (.iconst 3, 1) := by decide +kernel
theorem dX5_readLeaf_102 : decode cX5_readLeaf 102 = .ok (.iaload, 1) := by decide +kernel
theorem dX5_readLeaf_103 : decode cX5_readLeaf 103 = .ok (.iastore, 1) := by decide +kernel
theorem dX5_readLeaf_104 : decode cX5_readLeaf 104 = .ok (.aload 4, 2) := by decide +kernel
theorem dX5_readLeaf_106 : decode cX5_readLeaf 106 = .ok (.iconst 5, 1) := by decide +kernel
theorem dX5_readLeaf_107 : decode cX5_readLeaf 107 = .ok (.aload_n 0, 1) := by decide +kernel
theorem dX5_readLeaf_108 : decode cX5_readLeaf 108 = .ok (.getfield 28, 3) := by decide +kernel
theorem dX5_readLeaf_111 : decode cX5_readLeaf 111 = .ok (.getfield 116, 3) := by decide +kernel
theorem dX5_readLeaf_114 : decode cX5_readLeaf 114 = .ok (.iconst 4, 1) := by decide +kernel
theorem dX5_readLeaf_115 : decode cX5_readLeaf 115 = .ok (.iaload, 1) := by decide +kernel
theorem dX5_readLeaf_116 : decode cX5_readLeaf 116 = .ok (.iastore, 1) := by decide +kernel
theorem dX5_readLeaf_117 : decode cX5_readLeaf 117 = .ok (.aload 4, 2) := by decide +kernel
theorem dX5_readLeaf_119 : decode cX5_readLeaf 119 = .ok (.bipush 6, 2) := by decide +kernel
theorem dX5_readLeaf_121 : decode cX5_readLeaf 121 = .ok (.iconst 0, 1) := by decide +kernel
theorem dX5_readLeaf_122 : decode cX5_readLeaf 122 = .ok (.iastore, 1) := by decide +kernel
theorem dX5_readLeaf_123 : decode cX5_readLeaf 123 = .ok (.aload_n 1, 1) := by decide +kernel
theorem dX5_readLeaf_124 : decode cX5_readLeaf 124 = .ok (.getfield 119, 3) := by decide +kernel
theorem dX5_readLeaf_127 : decode cX5_readLeaf 127 = .ok (.iload_n 3, 1) := by decide +kernel
theorem dX5_readLeaf_128 : decode cX5_readLeaf 128 = .ok (.iload_n 2, 1) := by decide +kernel
theorem dX5_readLeaf_129 : decode cX5_readLeaf 129 = .ok (.iastore, 1) := by decide +kernel
theorem dX5_readLeaf_130 : decode cX5_readLeaf 130 = .ok (.iconst 0, 1) := by decide +kernel
theorem dX5_readLeaf_131 : decode cX5_readLeaf 131 = .ok (.istore 5, 2) := by decide +kernel
theorem dX5_readLeaf_133 : decode cX5_readLeaf 133 = .ok (.iload 5, 2) := by decide +kernel
theorem dX5_readLeaf_135 : decode cX5_readLeaf 135 = .ok (.iload_n 2, 1) := by decide +kernel
theorem dX5_readLeaf_136 : decode cX5_readLeaf 136 = .ok (.if_icmp .ge 24, 3) := by decide +kernel
theorem dX5_readLeaf_139 : decode cX5_readLeaf 139 = .ok (.iload 5, 2) := by decide +kernel
theorem dX5_readLeaf_141 : decode cX5_readLeaf 141 = .ok (.bipush 6, 2) := by decide +kernel
theorem dX5_readLeaf_143 : decode cX5_readLeaf 143 = .ok (.if_icmp .ge 17, 3) := by decide +kernel
theorem dX5_readLeaf_146 : decode cX5_readLeaf 146 = .ok (.aload_n 0, 1) := by decide +kernel
theorem dX5_readLeaf_147 : decode cX5_readLeaf 147 = .ok (.aload_n 1, 1) := by decide +kernel
theorem dX5_readLeaf_148 : decode cX5_readLeaf 148 = .ok (.iload_n 3, 1) := by decide +kernel
theorem dX5_readLeaf_149 : decode cX5_readLeaf 149 = .ok (.iload 5, 2) := by decide +kernel
theorem dX5_readLeaf_151 : decode cX5_readLeaf 151 = .ok (.invokevirtual 122, 3) := by decide +kernel
theorem dX5_readLeaf_154 : decode cX5_readLeaf 154 = .ok (.iinc 5 1, 3) := by decide +kernel
theorem dX5_readLeaf_157 : decode cX5_readLeaf 157 = .ok (.goto (-24), 3) := by decide +kernel
theorem dX5_readLeaf_160 : decode cX5_readLeaf 160 = .ok (.iload_n 3, 1) := by decide +kernel
theorem dX5_readLeaf_161 : decode cX5_readLeaf 161 = .ok (.ireturn, 1) := by decide +kernel
theorem dX5_addStep_0 : decode cX5_addStep 0 = .ok (.aload_n 0, 1) := by decide +kernel
theorem dX5_addStep_1 : decode cX5_addStep 1 = .ok (.getfield 60, 3) := by decide +kernel
theorem dX5_addStep_4 : decode cX5_addStep 4 = .ok (.iload_n 3, 1) := by decide +kernel
theorem dX5_addStep_5 : decode cX5_addStep 5 = .ok (.iaload, 1) := by decide +kernel
theorem dX5_addStep_6 : decode cX5_addStep 6 = .ok (.istore 4, 2) := by decide +kernel
theorem dX5_addStep_8 : decode cX5_addStep 8 = .ok (.aload_n 0, 1) := by decide +kernel
theorem dX5_addStep_9 : decode cX5_addStep 9 = .ok (.getfield 63, 3) := by decide +kernel
theorem dX5_addStep_12 : decode cX5_addStep 12 = .ok (.iload_n 3, 1) := by decide +kernel
theorem dX5_addStep_13 : decode cX5_addStep 13 = .ok (.iaload, 1) := by decide +kernel
theorem dX5_addStep_14 : decode cX5_addStep 14 = .ok (.istore 5, 2) := by decide +kernel
theorem dX5_addStep_16 : decode cX5_addStep 16 = .ok (.aload_n 1, 1) := by decide +kernel
theorem dX5_addStep_17 : decode cX5_addStep 17 = .ok (.getfield 112, 3) := by decide +kernel
theorem dX5_addStep_20 : decode cX5_addStep 20 = .ok (.iload_n 2, 1) := by decide +kernel
theorem dX5_addStep_21 : decode cX5_addStep 21 = .ok (.aaload, 1) := by decide +kernel
theorem dX5_addStep_22 : decode cX5_addStep 22 = .ok (.astore 6, 2) := by decide +kernel
theorem dX5_addStep_24 : decode cX5_addStep 24 = .ok (.aload_n 1, 1) := by decide +kernel
theorem dX5_addStep_25 : decode cX5_addStep 25 = .ok (.getfield 126, 3) := by decide +kernel
theorem dX5_addStep_28 : decode cX5_addStep 28 = .ok (.iload_n 2, 1) := by decide +kernel
theorem dX5_addStep_29 : decode cX5_addStep 29 = .ok (.aaload, 1) := by decide +kernel
theorem dX5_addStep_30 : decode cX5_addStep 30 = .ok (.iload_n 3, 1) := by decide +kernel
theorem dX5_addStep_31 : decode cX5_addStep 31 = .ok (.iload 4, 2) := by decide +kernel
theorem dX5_addStep_33 : decode cX5_addStep 33 = .ok (.iastore, 1) := by decide +kernel
theorem dX5_addStep_34 : decode cX5_addStep 34 = .ok (.aload_n 1, 1) := by decide +kernel
theorem dX5_addStep_35 : decode cX5_addStep 35 = .ok (.getfield 129, 3) := by decide +kernel
theorem dX5_addStep_38 : decode cX5_addStep 38 = .ok (.iload_n 2, 1) := by decide +kernel
theorem dX5_addStep_39 : decode cX5_addStep 39 = .ok (.aaload, 1) := by decide +kernel
theorem dX5_addStep_40 : decode cX5_addStep 40 = .ok (.iload_n 3, 1) := by decide +kernel
theorem dX5_addStep_41 : decode cX5_addStep 41 = .ok (.iload 5, 2) := by decide +kernel
theorem dX5_addStep_43 : decode cX5_addStep 43 = .ok (.iastore, 1) := by decide +kernel
theorem dX5_addStep_44 : decode cX5_addStep 44 = .ok (.aload_n 1, 1) := by decide +kernel
theorem dX5_addStep_45 : decode cX5_addStep 45 = .ok (.getfield 132, 3) := by decide +kernel
theorem dX5_addStep_48 : decode cX5_addStep 48 = .ok (.iload 4, 2) := by decide +kernel
theorem dX5_addStep_50 : decode cX5_addStep 50 = .ok (.dup2, 1) := by decide +kernel
theorem dX5_addStep_51 : decode cX5_addStep 51 = .ok (.iaload, 1) := by decide +kernel
theorem dX5_addStep_52 : decode cX5_addStep 52 = .ok (.iconst 1, 1) := by decide +kernel
theorem dX5_addStep_53 : decode cX5_addStep 53 = .ok (.iload_n 2, 1) := by decide +kernel
theorem dX5_addStep_54 : decode cX5_addStep 54 = .ok (.ishl, 1) := by decide +kernel
theorem dX5_addStep_55 : decode cX5_addStep 55 = .ok (.ior, 1) := by decide +kernel
theorem dX5_addStep_56 : decode cX5_addStep 56 = .ok (.iastore, 1) := by decide +kernel
theorem dX5_addStep_57 : decode cX5_addStep 57 = .ok (.aload 6, 2) := by decide +kernel
theorem dX5_addStep_59 : decode cX5_addStep 59 = .ok (.iconst 0, 1) := by decide +kernel
theorem dX5_addStep_60 : decode cX5_addStep 60 = .ok (.dup2, 1) := by decide +kernel
theorem dX5_addStep_61 : decode cX5_addStep 61 = .ok (.iaload, 1) := by decide +kernel
theorem dX5_addStep_62 : decode cX5_addStep 62 = .ok (.aload_n 1, 1) := by decide +kernel
theorem dX5_addStep_63 : decode cX5_addStep 63 = .ok (.iload 4, 2) := by decide +kernel
theorem dX5_addStep_65 : decode cX5_addStep 65 = .ok (.iload 5, 2) := by decide +kernel
theorem dX5_addStep_67 : decode cX5_addStep 67 = .ok (.iconst 1, 1) := by decide +kernel
theorem dX5_addStep_68 : decode cX5_addStep 68 = .ok (.invokevirtual 135, 3) := by decide +kernel
theorem dX5_addStep_71 : decode cX5_addStep 71 = .ok (.iadd, 1) := by decide +kernel
theorem dX5_addStep_72 : decode cX5_addStep 72 = .ok (.iastore, 1) := by decide +kernel
theorem dX5_addStep_73 : decode cX5_addStep 73 = .ok (.aload 6, 2) := by decide +kernel
theorem dX5_addStep_75 : decode cX5_addStep 75 = .ok (.iconst 1, 1) := by decide +kernel
theorem dX5_addStep_76 : decode cX5_addStep 76 = .ok (.dup2, 1) := by decide +kernel
theorem dX5_addStep_77 : decode cX5_addStep 77 = .ok (.iaload, 1) := by decide +kernel
theorem dX5_addStep_78 : decode cX5_addStep 78 = .ok (.aload_n 1, 1) := by decide +kernel
theorem dX5_addStep_79 : decode cX5_addStep 79 = .ok (.iload 4, 2) := by decide +kernel
theorem dX5_addStep_81 : decode cX5_addStep 81 = .ok (.iload 5, 2) := by decide +kernel
theorem dX5_addStep_83 : decode cX5_addStep 83 = .ok (.iconst 2, 1) := by decide +kernel
theorem dX5_addStep_84 : decode cX5_addStep 84 = .ok (.invokevirtual 135, 3) := by decide +kernel
theorem dX5_addStep_87 : decode cX5_addStep 87 = .ok (.iadd, 1) := by decide +kernel
theorem dX5_addStep_88 : decode cX5_addStep 88 = .ok (.iastore, 1) := by decide +kernel
theorem dX5_addStep_89 : decode cX5_addStep 89 = .ok (.aload 6, 2) := by decide +kernel
theorem dX5_addStep_91 : decode cX5_addStep 91 = .ok (.iconst 2, 1) := by decide +kernel
theorem dX5_addStep_92 : decode cX5_addStep 92 = .ok (.dup2, 1) := by decide +kernel
theorem dX5_addStep_93 : decode cX5_addStep 93 = .ok (.iaload, 1) := by decide +kernel
theorem dX5_addStep_94 : decode cX5_addStep 94 = .ok (.aload_n 1, 1) := by decide +kernel
theorem dX5_addStep_95 : decode cX5_addStep 95 = .ok (.iload 4, 2) := by decide +kernel
theorem dX5_addStep_97 : decode cX5_addStep 97 = .ok (.iload 5, 2) := by decide +kernel
theorem dX5_addStep_99 : decode cX5_addStep 99 = .ok (.iconst 3, 1) := by decide +kernel
theorem dX5_addStep_100 : decode cX5_addStep 100 = .ok (.invokevirtual 135, 3) := by decide +kernel
theorem dX5_addStep_103 : decode cX5_addStep 103 = .ok (.iadd, 1) := by decide +kernel
theorem dX5_addStep_104 : decode cX5_addStep 104 = .ok (.iastore, 1) := by decide +kernel
theorem dX5_addStep_105 : decode cX5_addStep 105 = .ok (.aload_n 1, 1) := by decide +kernel
theorem dX5_addStep_106 : decode cX5_addStep 106 = .ok (.iload 4, 2) := by decide +kernel
theorem dX5_addStep_108 : decode cX5_addStep 108 = .ok (.iload 5, 2) := by decide +kernel
theorem dX5_addStep_110 : decode cX5_addStep 110 = .ok (.iconst 4, 1) := by decide +kernel
theorem dX5_addStep_111 : decode cX5_addStep 111 = .ok (.invokevirtual 135, 3) := by decide +kernel
theorem dX5_addStep_114 : decode cX5_addStep 114 = .ok (.istore 7, 2) := by decide +kernel
theorem dX5_addStep_116 : decode cX5_addStep 116 = .ok (.aload 6, 2) := by decide +kernel
theorem dX5_addStep_118 : decode cX5_addStep 118 = .ok (.bipush 6, 2) := by decide +kernel
theorem dX5_addStep_120 : decode cX5_addStep 120 = .ok (.dup2, 1) := by decide +kernel
theorem dX5_addStep_121 : decode cX5_addStep 121 = .ok (.iaload, 1) := by decide +kernel
theorem dX5_addStep_122 : decode cX5_addStep 122 = .ok (.iload 7, 2) := by decide +kernel
theorem dX5_addStep_124 : decode cX5_addStep 124 = .ok (.iconst (-1), 1) := by decide +kernel
theorem dX5_addStep_125 : decode cX5_addStep 125 = .ok (.if_icmp .ne 7, 3) := by decide +kernel
theorem dX5_addStep_128 : decode cX5_addStep 128 = .ok (.iconst 0, 1) := by decide +kernel
theorem dX5_addStep_129 : decode cX5_addStep 129 = .ok (.goto 7, 3) := by decide +kernel
theorem dX5_addStep_132 : decode cX5_addStep 132 = .ok (.iconst 1, 1) := by decide +kernel
theorem dX5_addStep_133 : decode cX5_addStep 133 = .ok (.iload 7, 2) := by decide +kernel
theorem dX5_addStep_135 : decode cX5_addStep 135 = .ok (.ishl, 1) := by decide +kernel
theorem dX5_addStep_136 : decode cX5_addStep 136 = .ok (.ior, 1) := by decide +kernel
theorem dX5_addStep_137 : decode cX5_addStep 137 = .ok (.iastore, 1) := by decide +kernel
theorem dX5_addStep_138 : decode cX5_addStep 138 = .ok (.return_, 1) := by decide +kernel
theorem dX5_readFork_0 : decode cX5_readFork 0 = .ok (.aload_n 0, 1) := by decide +kernel
theorem dX5_readFork_1 : decode cX5_readFork 1 = .ok (.getfield 66, 3) := by decide +kernel
theorem dX5_readFork_4 : decode cX5_readFork 4 = .ok (.dup, 1) := by decide +kernel
theorem dX5_readFork_5 : decode cX5_readFork 5 = .ok (.getfield 101, 3) := by decide +kernel
theorem dX5_readFork_8 : decode cX5_readFork 8 = .ok (.iconst 1, 1) := by decide +kernel
theorem dX5_readFork_9 : decode cX5_readFork 9 = .ok (.iadd, 1) := by decide +kernel
theorem dX5_readFork_10 : decode cX5_readFork 10 = .ok (.putfield 101, 3) := by decide +kernel
theorem dX5_readFork_13 : decode cX5_readFork 13 = .ok (.aload_n 0, 1) := by decide +kernel
theorem dX5_readFork_14 : decode cX5_readFork 14 = .ok (.getfield 43, 3) := by decide +kernel
theorem dX5_readFork_17 : decode cX5_readFork 17 = .ok (.aload_n 0, 1) := by decide +kernel
theorem dX5_readFork_18 : decode cX5_readFork 18 = .ok (.getfield 66, 3) := by decide +kernel
theorem dX5_readFork_21 : decode cX5_readFork 21 = .ok (.invokevirtual 108, 3) := by decide +kernel
theorem dX5_readFork_24 : decode cX5_readFork 24 = .ok (.aload_n 1, 1) := by decide +kernel
theorem dX5_readFork_25 : decode cX5_readFork 25 = .ok (.getfield 76, 3) := by decide +kernel
theorem dX5_readFork_28 : decode cX5_readFork 28 = .ok (.istore_n 3, 1) := by decide +kernel
theorem dX5_readFork_29 : decode cX5_readFork 29 = .ok (.aload_n 1, 1) := by decide +kernel
theorem dX5_readFork_30 : decode cX5_readFork 30 = .ok (.dup, 1) := by decide +kernel
theorem dX5_readFork_31 : decode cX5_readFork 31 = .ok (.getfield 76, 3) := by decide +kernel
theorem dX5_readFork_34 : decode cX5_readFork 34 = .ok (.iconst 1, 1) := by decide +kernel
theorem dX5_readFork_35 : decode cX5_readFork 35 = .ok (.iadd, 1) := by decide +kernel
theorem dX5_readFork_36 : decode cX5_readFork 36 = .ok (.putfield 76, 3) := by decide +kernel
theorem dX5_readFork_39 : decode cX5_readFork 39 = .ok (.aload_n 1, 1) := by decide +kernel
theorem dX5_readFork_40 : decode cX5_readFork 40 = .ok (.getfield 139, 3) := by decide +kernel
theorem dX5_readFork_43 : decode cX5_readFork 43 = .ok (.iload_n 3, 1) := by decide +kernel
theorem dX5_readFork_44 : decode cX5_readFork 44 = .ok (.aload_n 0, 1) := by decide +kernel
theorem dX5_readFork_45 : decode cX5_readFork 45 = .ok (.getfield 43, 3) := by decide +kernel
theorem dX5_readFork_48 : decode cX5_readFork 48 = .ok (.getfield 116, 3) := by decide +kernel
theorem dX5_readFork_51 : decode cX5_readFork 51 = .ok (.iconst 0, 1) := by decide +kernel
theorem dX5_readFork_52 : decode cX5_readFork 52 = .ok (.iaload, 1) := by decide +kernel
theorem dX5_readFork_53 : decode cX5_readFork 53 = .ok (.iastore, 1) := by decide +kernel
theorem dX5_readFork_54 : decode cX5_readFork 54 = .ok (.aload_n 1, 1) := by decide +kernel
theorem dX5_readFork_55 : decode cX5_readFork 55 = .ok (.getfield 142, 3) := by decide +kernel
theorem dX5_readFork_58 : decode cX5_readFork 58 = .ok (.iload_n 3, 1) := by decide +kernel
theorem dX5_readFork_59 : decode cX5_readFork 59 = .ok (.aload_n 0, 1) := by decide +kernel
theorem dX5_readFork_60 : decode cX5_readFork 60 = .ok (.getfield 43, 3) := by decide +kernel
theorem dX5_readFork_63 : decode cX5_readFork 63 = .ok (.getfield 116, 3) := by decide +kernel
theorem dX5_readFork_66 : decode cX5_readFork 66 = .ok (.iconst 1, 1) := by decide +kernel
theorem dX5_readFork_67 : decode cX5_readFork 67 = .ok (.iaload, 1) := by decide +kernel
theorem dX5_readFork_68 : decode cX5_readFork 68 = .ok (.iastore, 1) := by decide +kernel
theorem dX5_readFork_69 : decode cX5_readFork 69 = .ok (.aload_n 1, 1) := by decide +kernel
theorem dX5_readFork_70 : decode cX5_readFork 70 = .ok (.getfield 145, 3) := by decide +kernel
theorem dX5_readFork_73 : decode cX5_readFork 73 = .ok (.iload_n 3, 1) := by decide +kernel
theorem dX5_readFork_74 : decode cX5_readFork 74 = .ok (.iload_n 2, 1) := by decide +kernel
theorem dX5_readFork_75 : decode cX5_readFork 75 = .ok (.ifCond .ne 7, 3) := by decide +kernel
theorem dX5_readFork_78 : decode cX5_readFork 78 = .ok (.iconst (-1), 1) := by decide +kernel
theorem dX5_readFork_79 : decode cX5_readFork 79 = .ok (.goto 11, 3) := by decide +kernel
theorem dX5_readFork_82 : decode cX5_readFork 82 = .ok (.aload_n 0, 1) := by decide +kernel
theorem dX5_readFork_83 : decode cX5_readFork 83 = .ok (.getfield 60, 3) := by decide +kernel
theorem dX5_readFork_86 : decode cX5_readFork 86 = .ok (.iload_n 2, 1) := by decide +kernel
theorem dX5_readFork_87 : decode cX5_readFork 87 = .ok (.iconst 1, 1) := by decide +kernel
theorem dX5_readFork_88 : decode cX5_readFork 88 = .ok (.isub, 1) := by decide +kernel
theorem dX5_readFork_89 : decode cX5_readFork 89 = .ok (.iaload, 1) := by decide +kernel
theorem dX5_readFork_90 : decode cX5_readFork 90 = .ok (.iastore, 1) := by decide +kernel
theorem dX5_readFork_91 : decode cX5_readFork 91 = .ok (.aload_n 1, 1) := by decide +kernel
theorem dX5_readFork_92 : decode cX5_readFork 92 = .ok (.getfield 132, 3) := by decide +kernel
theorem dX5_readFork_95 : decode cX5_readFork 95 = .ok (.iload_n 3, 1) := by decide +kernel
theorem dX5_readFork_96 : decode cX5_readFork 96 = .ok (.iconst 0, 1) := by decide +kernel
theorem dX5_readFork_97 : decode cX5_readFork 97 = .ok (.iastore, 1) := by decide +kernel
theorem dX5_readFork_98 : decode cX5_readFork 98 = .ok (.aload_n 0, 1) := by decide +kernel
theorem dX5_readFork_99 : decode cX5_readFork 99 = .ok (.getfield 66, 3) := by decide +kernel
theorem dX5_readFork_102 : decode cX5_readFork 102 = .ok (.bipush 40, 2) := by decide +kernel
theorem dX5_readFork_104 : decode cX5_readFork 104 = .ok (.invokevirtual 148, 3) := by decide +kernel
theorem dX5_readFork_107 : decode cX5_readFork 107 = .ok (.iconst 0, 1) := by decide +kernel
theorem dX5_readFork_108 : decode cX5_readFork 108 = .ok (.istore 4, 2) := by decide +kernel
theorem dX5_readFork_110 : decode cX5_readFork 110 = .ok (.iload 4, 2) := by decide +kernel
theorem dX5_readFork_112 : decode cX5_readFork 112 = .ok (.iconst 4, 1) := by decide +kernel
theorem dX5_readFork_113 : decode cX5_readFork 113 = .ok (.if_icmp .ge 95, 3) := by decide +kernel
theorem dX5_readFork_116 : decode cX5_readFork 116 = .ok (.aload_n 1, 1) := by decide +kernel
theorem dX5_readFork_117 : decode cX5_readFork 117 = .ok (.getfield 151, 3) := by decide +kernel
theorem dX5_readFork_120 : decode cX5_readFork 120 = .ok (.iload_n 3, 1) := by decide +kernel
theorem dX5_readFork_121 : decode cX5_readFork 121 = .ok (.iload 4, 2) := by decide +kernel
theorem dX5_readFork_123 : decode cX5_readFork 123 = .ok (.iconst 1, 1) := by decide +kernel
theorem dX5_readFork_124 : decode cX5_readFork 124 = .ok (.iadd, 1) := by decide +kernel
theorem dX5_readFork_125 : decode cX5_readFork 125 = .ok (.iastore, 1) := by decide +kernel
theorem dX5_readFork_126 : decode cX5_readFork 126 = .ok (.aload_n 0, 1) := by decide +kernel
theorem dX5_readFork_127 : decode cX5_readFork 127 = .ok (.getfield 60, 3) := by decide +kernel
theorem dX5_readFork_130 : decode cX5_readFork 130 = .ok (.iload_n 2, 1) := by decide +kernel
theorem dX5_readFork_131 : decode cX5_readFork 131 = .ok (.iload_n 3, 1) := by decide +kernel
theorem dX5_readFork_132 : decode cX5_readFork 132 = .ok (.iastore, 1) := by decide +kernel
theorem dX5_readFork_133 : decode cX5_readFork 133 = .ok (.aload_n 0, 1) := by decide +kernel
theorem dX5_readFork_134 : decode cX5_readFork 134 = .ok (.getfield 63, 3) := by decide +kernel
theorem dX5_readFork_137 : decode cX5_readFork 137 = .ok (.iload_n 2, 1) := by decide +kernel
theorem dX5_readFork_138 : decode cX5_readFork 138 = .ok (.iload 4, 2) := by decide +kernel
theorem dX5_readFork_140 : decode cX5_readFork 140 = .ok (.iastore, 1) := by decide +kernel
theorem dX5_readFork_141 : decode cX5_readFork 141 = .ok (.aload_n 0, 1) := by decide +kernel
theorem dX5_readFork_142 : decode cX5_readFork 142 = .ok (.aload_n 1, 1) := by decide +kernel
theorem dX5_readFork_143 : decode cX5_readFork 143 = .ok (.iload_n 2, 1) := by decide +kernel
theorem dX5_readFork_144 : decode cX5_readFork 144 = .ok (.invokevirtual 154, 3) := by decide +kernel
theorem dX5_readFork_147 : decode cX5_readFork 147 = .ok (.iload 4, 2) := by decide +kernel
theorem dX5_readFork_149 : decode cX5_readFork 149 = .ok (.ifCond .le 18, 3) := by decide +kernel
theorem dX5_readFork_152 : decode cX5_readFork 152 = .ok (.aload_n 0, 1) := by decide +kernel
theorem dX5_readFork_153 : decode cX5_readFork 153 = .ok (.getfield 66, 3) := by decide +kernel
theorem dX5_readFork_156 : decode cX5_readFork 156 = .ok (.bipush 41, 2) := by decide +kernel
theorem dX5_readFork_158 : decode cX5_readFork 158 = .ok (.invokevirtual 158, 3) := by decide +kernel
theorem dX5_readFork_161 : decode cX5_readFork 161 = .ok (.ifCond .eq 6, 3) := by decide +kernel
theorem dX5_readFork_164 : decode cX5_readFork 164 = .ok (.goto 44, 3) := by decide +kernel
theorem dX5_readFork_167 : decode cX5_readFork 167 = .ok (.iload 4, 2) := by decide +kernel
theorem dX5_readFork_169 : decode cX5_readFork 169 = .ok (.iconst 3, 1) := by decide +kernel
theorem dX5_readFork_170 : decode cX5_readFork 170 = .ok (.if_icmp .eq 15, 3) := by decide +kernel
theorem dX5_readFork_173 : decode cX5_readFork 173 = .ok (.aload_n 0, 1) := by decide +kernel
theorem dX5_readFork_174 : decode cX5_readFork 174 = .ok (.getfield 66, 3) := by decide +kernel
theorem dX5_readFork_177 : decode cX5_readFork 177 = .ok (.bipush 59, 2) := by decide +kernel
theorem dX5_readFork_179 : decode cX5_readFork 179 = .ok (.invokevirtual 158, 3) := by decide +kernel
theorem dX5_readFork_182 : decode cX5_readFork 182 = .ok (.ifCond .ne 20, 3) := by decide +kernel
theorem dX5_readFork_185 : decode cX5_readFork 185 = .ok (.aload_n 0, 1) := by decide +kernel
theorem dX5_readFork_186 : decode cX5_readFork 186 = .ok (.getfield 66, 3) := by decide +kernel
theorem dX5_readFork_189 : decode cX5_readFork 189 = .ok (.aload_n 0, 1) := by decide +kernel
theorem dX5_readFork_190 : decode cX5_readFork 190 = .ok (.getfield 66, 3) := by decide +kernel
theorem dX5_readFork_193 : decode cX5_readFork 193 = .ok (.getfield 101, 3) := by decide +kernel
theorem dX5_readFork_196 : decode cX5_readFork 196 = .ok (.invokevirtual 104, 3) := by decide +kernel
theorem dX5_readFork_199 : decode cX5_readFork 199 = .ok (.goto 9, 3) := by decide +kernel
theorem dX5_readFork_202 : decode cX5_readFork 202 = .ok (.iinc 4 1, 3) := by decide +kernel
theorem dX5_readFork_205 : decode cX5_readFork 205 = .ok (.goto (-95), 3) := by decide +kernel
theorem dX5_readFork_208 : decode cX5_readFork 208 = .ok (.bipush 100, 2) := by decide +kernel
theorem dX5_readFork_210 : decode cX5_readFork 210 = .ok (.iload_n 3, 1) := by decide +kernel
theorem dX5_readFork_211 : decode cX5_readFork 211 = .ok (.iadd, 1) := by decide +kernel
theorem dX5_readFork_212 : decode cX5_readFork 212 = .ok (.ireturn, 1) := by decide +kernel
theorem dX5_readBranch_0 : decode cX5_readBranch 0 = .ok (.aload_n 0, 1) := by decide +kernel
theorem dX5_readBranch_1 : decode cX5_readBranch 1 = .ok (.getfield 60, 3) := by decide +kernel
theorem dX5_readBranch_4 : decode cX5_readBranch 4 = .ok (.iload_n 2, 1) := by decide +kernel
theorem dX5_readBranch_5 : decode cX5_readBranch 5 = .ok (.iaload, 1) := by decide +kernel
theorem dX5_readBranch_6 : decode cX5_readBranch 6 = .ok (.iconst 4, 1) := by decide +kernel
theorem dX5_readBranch_7 : decode cX5_readBranch 7 = .ok (.imul, 1) := by decide +kernel
theorem dX5_readBranch_8 : decode cX5_readBranch 8 = .ok (.aload_n 0, 1) := by decide +kernel
theorem dX5_readBranch_9 : decode cX5_readBranch 9 = .ok (.getfield 63, 3) := by decide +kernel
theorem dX5_readBranch_12 : decode cX5_readBranch 12 = .ok (.iload_n 2, 1) := by decide +kernel
theorem dX5_readBranch_13 : decode cX5_readBranch 13 = .ok (.iaload, 1) := by decide +kernel
theorem dX5_readBranch_14 : decode cX5_readBranch 14 = .ok (.iadd, 1) := by decide +kernel
theorem dX5_readBranch_15 : decode cX5_readBranch 15 = .ok (.istore_n 3, 1) := by decide +kernel
theorem dX5_readBranch_16 : decode cX5_readBranch 16 = .ok (.aload_n 0, 1) := by decide +kernel
theorem dX5_readBranch_17 : decode cX5_readBranch 17 = .ok (.getfield 57, 3) := by decide +kernel
theorem dX5_readBranch_20 : decode cX5_readBranch 20 = .ok (.aload_n 0, 1) := by decide +kernel
theorem dX5_readBranch_21 : decode cX5_readBranch 21 = .ok (.getfield 66, 3) := by decide +kernel
theorem dX5_readBranch_24 : decode cX5_readBranch 24 = .ok (.invokevirtual 108, 3) := by decide +kernel
theorem dX5_readBranch_27 : decode cX5_readBranch 27 = .ok (.aload_n 0, 1) := by decide +kernel
theorem dX5_readBranch_28 : decode cX5_readBranch 28 = .ok (.getfield 66, 3) := by decide +kernel
theorem dX5_readBranch_31 : decode cX5_readBranch 31 = .ok (.getfield 162, 3) := by decide +kernel
theorem dX5_readBranch_34 : decode cX5_readBranch 34 = .ok (.iconst (-1), 1) := by decide +kernel
theorem dX5_readBranch_35 : decode cX5_readBranch 35 = .ok (.if_icmp .eq 4, 3) := by decide +kernel
theorem dX5_readBranch_38 : decode cX5_readBranch 38 = .ok (.return_, 1) := by decide +kernel
theorem dX5_readBranch_39 : decode cX5_readBranch 39 = .ok (.aload_n 0, 1) := by decide +kernel
theorem dX5_readBranch_40 : decode cX5_readBranch 40 = .ok (.getfield 57, 3) := by decide +kernel
theorem dX5_readBranch_43 : decode cX5_readBranch 43 = .ok (.getfield 116, 3) := by decide +kernel
theorem dX5_readBranch_46 : decode cX5_readBranch 46 = .ok (.iconst 0, 1) := by decide +kernel
theorem dX5_readBranch_47 : decode cX5_readBranch 47 = .ok (.aload_n 1, 1) := by decide +kernel
theorem dX5_readBranch_48 : decode cX5_readBranch 48 = .ok (.getfield 165, 3) := by decide +kernel
theorem dX5_readBranch_51 : decode cX5_readBranch 51 = .ok (.iload_n 3, 1) := by decide +kernel
theorem dX5_readBranch_52 : decode cX5_readBranch 52 = .ok (.aaload, 1) := by decide +kernel
theorem dX5_readBranch_53 : decode cX5_readBranch 53 = .ok (.iconst 0, 1) := by decide +kernel
theorem dX5_readBranch_54 : decode cX5_readBranch 54 = .ok (.aload_n 0, 1) := by decide +kernel
theorem dX5_readBranch_55 : decode cX5_readBranch 55 = .ok (.getfield 57, 3) := by decide +kernel
theorem dX5_readBranch_58 : decode cX5_readBranch 58 = .ok (.getfield 116, 3) := by decide +kernel
theorem dX5_readBranch_61 : decode cX5_readBranch 61 = .ok (.arraylength, 1) := by decide +kernel
theorem dX5_readBranch_62 : decode cX5_readBranch 62 = .ok (.invokestatic 168, 3) := by decide +kernel
theorem dX5_readBranch_65 : decode cX5_readBranch 65 = .ok (.aload_n 0, 1) := by decide +kernel
theorem dX5_readBranch_66 : decode cX5_readBranch 66 = .ok (.getfield 66, 3) := by decide +kernel
theorem dX5_readBranch_69 : decode cX5_readBranch 69 = .ok (.bipush 58, 2) := by decide +kernel
theorem dX5_readBranch_71 : decode cX5_readBranch 71 = .ok (.invokevirtual 148, 3) := by decide +kernel
theorem dX5_readBranch_74 : decode cX5_readBranch 74 = .ok (.aload_n 1, 1) := by decide +kernel
theorem dX5_readBranch_75 : decode cX5_readBranch 75 = .ok (.getfield 174, 3) := by decide +kernel
theorem dX5_readBranch_78 : decode cX5_readBranch 78 = .ok (.iload_n 3, 1) := by decide +kernel
theorem dX5_readBranch_79 : decode cX5_readBranch 79 = .ok (.aload_n 0, 1) := by decide +kernel
theorem dX5_readBranch_80 : decode cX5_readBranch 80 = .ok (.aload_n 1, 1) := by decide +kernel
theorem dX5_readBranch_81 : decode cX5_readBranch 81 = .ok (.iload_n 2, 1) := by decide +kernel
theorem dX5_readBranch_82 : decode cX5_readBranch 82 = .ok (.iconst 1, 1) := by decide +kernel
theorem dX5_readBranch_83 : decode cX5_readBranch 83 = .ok (.iadd, 1) := by decide +kernel
theorem dX5_readBranch_84 : decode cX5_readBranch 84 = .ok (.invokevirtual 84, 3) := by decide +kernel
theorem dX5_readBranch_87 : decode cX5_readBranch 87 = .ok (.iastore, 1) := by decide +kernel
theorem dX5_readBranch_88 : decode cX5_readBranch 88 = .ok (.return_, 1) := by decide +kernel
theorem dX6_init_0 : decode cX6_init 0 = .ok (.aload_n 0, 1) := by decide +kernel
theorem dX6_init_1 : decode cX6_init 1 = .ok (.invokespecial 3, 3) := by decide +kernel
theorem dX6_init_4 : decode cX6_init 4 = .ok (.aload_n 0, 1) := by decide +kernel
theorem dX6_init_5 : decode cX6_init 5 = .ok (.bipush 24, 2) := by decide +kernel
theorem dX6_init_7 : decode cX6_init 7 = .ok (.newarray .int, 2) := by decide +kernel
theorem dX6_init_9 : decode cX6_init 9 = .ok (.putfield 9, 3) := by decide +kernel
theorem dX6_init_12 : decode cX6_init 12 = .ok (.aload_n 0, 1) := by decide +kernel
theorem dX6_init_13 : decode cX6_init 13 = .ok (.bipush 24, 2) := by decide +kernel
theorem dX6_init_15 : decode cX6_init 15 = .ok (.newarray .int, 2) := by decide +kernel
theorem dX6_init_17 : decode cX6_init 17 = .ok (.putfield 15, 3) := by decide +kernel
theorem dX6_init_20 : decode cX6_init 20 = .ok (.aload_n 0, 1) := by decide +kernel
theorem dX6_init_21 : decode cX6_init 21 = .ok (.bipush 40, 2) := by decide +kernel
theorem dX6_init_23 : decode cX6_init 23 = .ok (.newarray .int, 2) := by decide +kernel
theorem dX6_init_25 : decode cX6_init 25 = .ok (.putfield 18, 3) := by decide +kernel
theorem dX6_init_28 : decode cX6_init 28 = .ok (.aload_n 0, 1) := by decide +kernel
theorem dX6_init_29 : decode cX6_init 29 = .ok (.bipush 40, 2) := by decide +kernel
theorem dX6_init_31 : decode cX6_init 31 = .ok (.newarray .int, 2) := by decide +kernel
theorem dX6_init_33 : decode cX6_init 33 = .ok (.putfield 21, 3) := by decide +kernel
theorem dX6_init_36 : decode cX6_init 36 = .ok (.aload_n 0, 1) := by decide +kernel
theorem dX6_init_37 : decode cX6_init 37 = .ok (.getfield 9, 3) := by decide +kernel
theorem dX6_init_40 : decode cX6_init 40 = .ok (.iconst 1, 1) := by decide +kernel
theorem dX6_init_41 : decode cX6_init 41 = .ok (.iconst (-1), 1) := by decide +kernel
theorem dX6_init_42 : decode cX6_init 42 = .ok (.iastore, 1) := by decide +kernel
theorem dX6_init_43 : decode cX6_init 43 = .ok (.aload_n 0, 1) := by decide +kernel
theorem dX6_init_44 : decode cX6_init 44 = .ok (.getfield 9, 3) := by decide +kernel
theorem dX6_init_47 : decode cX6_init 47 = .ok (.iconst 2, 1) := by decide +kernel
theorem dX6_init_48 : decode cX6_init 48 = .ok (.iconst (-1), 1) := by decide +kernel
theorem dX6_init_49 : decode cX6_init 49 = .ok (.iastore, 1) := by decide +kernel
theorem dX6_init_50 : decode cX6_init 50 = .ok (.return_, 1) := by decide +kernel
theorem dX6_tell_0 : decode cX6_tell 0 = .ok (.aload_n 0, 1) := by decide +kernel
theorem dX6_tell_1 : decode cX6_tell 1 = .ok (.getfield 24, 3) := by decide +kernel
theorem dX6_tell_4 : decode cX6_tell 4 = .ok (.bipush 40, 2) := by decide +kernel
theorem dX6_tell_6 : decode cX6_tell 6 = .ok (.if_icmp .ne 43, 3) := by decide +kernel
theorem dX6_tell_9 : decode cX6_tell 9 = .ok (.aload_n 0, 1) := by decide +kernel
theorem dX6_tell_10 : decode cX6_tell 10 = .ok (.getfield 18, 3) := by decide +kernel
theorem dX6_tell_13 : decode cX6_tell 13 = .ok (.iconst 1, 1) := by decide +kernel
theorem dX6_tell_14 : decode cX6_tell 14 = .ok (.aload_n 0, 1) := by decide +kernel
theorem dX6_tell_15 : decode cX6_tell 15 = .ok (.getfield 18, 3) := by decide +kernel
theorem dX6_tell_18 : decode cX6_tell 18 = .ok (.iconst 0, 1) := by decide +kernel
theorem dX6_tell_19 : decode cX6_tell 19 = .ok (.bipush 39, 2) := by decide +kernel
theorem dX6_tell_21 : decode cX6_tell 21 = .ok (.invokestatic 28, 3) := by decide +kernel
theorem dX6_tell_24 : decode cX6_tell 24 = .ok (.aload_n 0, 1) := by decide +kernel
theorem dX6_tell_25 : decode cX6_tell 25 = .ok (.getfield 21, 3) := by decide +kernel
theorem dX6_tell_28 : decode cX6_tell 28 = .ok (.iconst 1, 1) := by decide +kernel
theorem dX6_tell_29 : decode cX6_tell 29 = .ok (.aload_n 0, 1) := by decide +kernel
theorem dX6_tell_30 : decode cX6_tell 30 = .ok (.getfield 21, 3) := by decide +kernel
theorem dX6_tell_33 : decode cX6_tell 33 = .ok (.iconst 0, 1) := by decide +kernel
theorem dX6_tell_34 : decode cX6_tell 34 = .ok (.bipush 39, 2) := by decide +kernel
theorem dX6_tell_36 : decode cX6_tell 36 = .ok (.invokestatic 28, 3) := by decide +kernel
theorem dX6_tell_39 : decode cX6_tell 39 = .ok (.aload_n 0, 1) := by decide +kernel
theorem dX6_tell_40 : decode cX6_tell 40 = .ok (.dup, 1) := by decide +kernel
theorem dX6_tell_41 : decode cX6_tell 41 = .ok (.getfield 24, 3) := by decide +kernel
theorem dX6_tell_44 : decode cX6_tell 44 = .ok (.iconst 1, 1) := by decide +kernel
theorem dX6_tell_45 : decode cX6_tell 45 = .ok (.isub, 1) := by decide +kernel
theorem dX6_tell_46 : decode cX6_tell 46 = .ok (.putfield 24, 3) := by decide +kernel
theorem dX6_tell_49 : decode cX6_tell 49 = .ok (.aload_n 0, 1) := by decide +kernel
theorem dX6_tell_50 : decode cX6_tell 50 = .ok (.getfield 18, 3) := by decide +kernel
theorem dX6_tell_53 : decode cX6_tell 53 = .ok (.aload_n 0, 1) := by decide +kernel
theorem dX6_tell_54 : decode cX6_tell 54 = .ok (.getfield 24, 3) := by decide +kernel
theorem dX6_tell_57 : decode cX6_tell 57 = .ok (.iload_n 1, 1) := by decide +kernel
theorem dX6_tell_58 : decode cX6_tell 58 = .ok (.iastore, 1) := by decide +kernel
theorem dX6_tell_59 : decode cX6_tell 59 = .ok (.aload_n 0, 1) := by decide +kernel
theorem dX6_tell_60 : decode cX6_tell 60 = .ok (.getfield 21, 3) := by decide +kernel
theorem dX6_tell_63 : decode cX6_tell 63 = .ok (.aload_n 0, 1) := by decide +kernel
theorem dX6_tell_64 : decode cX6_tell 64 = .ok (.getfield 24, 3) := by decide +kernel
theorem dX6_tell_67 : decode cX6_tell 67 = .ok (.aload_n 0, 1) := by decide +kernel
theorem dX6_tell_68 : decode cX6_tell 68 = .ok (.getfield 9, 3) := by decide +kernel
theorem dX6_tell_71 : decode cX6_tell 71 = .ok (.iload_n 1, 1) := by decide +kernel
theorem dX6_tell_72 : decode cX6_tell 72 = .ok (.iaload, 1) := by decide +kernel
theorem dX6_tell_73 : decode cX6_tell 73 = .ok (.iastore, 1) := by decide +kernel
theorem dX6_tell_74 : decode cX6_tell 74 = .ok (.aload_n 0, 1) := by decide +kernel
theorem dX6_tell_75 : decode cX6_tell 75 = .ok (.dup, 1) := by decide +kernel
theorem dX6_tell_76 : decode cX6_tell 76 = .ok (.getfield 24, 3) := by decide +kernel
theorem dX6_tell_79 : decode cX6_tell 79 = .ok (.iconst 1, 1) := by decide +kernel
theorem dX6_tell_80 : decode cX6_tell 80 = .ok (.iadd, 1) := by decide +kernel
theorem dX6_tell_81 : decode cX6_tell 81 = .ok (.putfield 24, 3) := by decide +kernel
theorem dX6_tell_84 : decode cX6_tell 84 = .ok (.aload_n 0, 1) := by decide +kernel
theorem dX6_tell_85 : decode cX6_tell 85 = .ok (.getfield 9, 3) := by decide +kernel
theorem dX6_tell_88 : decode cX6_tell 88 = .ok (.iload_n 1, 1) := by decide +kernel
theorem dX6_tell_89 : decode cX6_tell 89 = .ok (.iload_n 2, 1) := by decide +kernel
theorem dX6_tell_90 : decode cX6_tell 90 = .ok (.iastore, 1) := by decide +kernel
theorem dX6_tell_91 : decode cX6_tell 91 = .ok (.aload_n 0, 1) := by decide +kernel
theorem dX6_tell_92 : decode cX6_tell 92 = .ok (.getfield 24, 3) := by decide +kernel
theorem dX6_tell_95 : decode cX6_tell 95 = .ok (.ireturn, 1) := by decide +kernel
theorem dX6_untell_0 : decode cX6_untell 0 = .ok (.aload_n 0, 1) := by decide +kernel
theorem dX6_untell_1 : decode cX6_untell 1 = .ok (.getfield 24, 3) := by decide +kernel
theorem dX6_untell_4 : decode cX6_untell 4 = .ok (.ifCond .ne 5, 3) := by decide +kernel
theorem dX6_untell_7 : decode cX6_untell 7 = .ok (.iconst (-1), 1) := by decide +kernel
theorem dX6_untell_8 : decode cX6_untell 8 = .ok (.ireturn, 1) := by decide +kernel
theorem dX6_untell_9 : decode cX6_untell 9 = .ok (.aload_n 0, 1) := by decide +kernel
theorem dX6_untell_10 : decode cX6_untell 10 = .ok (.dup, 1) := by decide +kernel
theorem dX6_untell_11 : decode cX6_untell 11 = .ok (.getfield 24, 3) := by decide +kernel
theorem dX6_untell_14 : decode cX6_untell 14 = .ok (.iconst 1, 1) := by decide +kernel
theorem dX6_untell_15 : decode cX6_untell 15 = .ok (.isub, 1) := by decide +kernel
theorem dX6_untell_16 : decode cX6_untell 16 = .ok (.putfield 24, 3) := by decide +kernel
theorem dX6_untell_19 : decode cX6_untell 19 = .ok (.aload_n 0, 1) := by decide +kernel
theorem dX6_untell_20 : decode cX6_untell 20 = .ok (.getfield 9, 3) := by decide +kernel
theorem dX6_untell_23 : decode cX6_untell 23 = .ok (.aload_n 0, 1) := by decide +kernel
theorem dX6_untell_24 : decode cX6_untell 24 = .ok (.getfield 18, 3) := by decide +kernel
theorem dX6_untell_27 : decode cX6_untell 27 = .ok (.aload_n 0, 1) := by decide +kernel
theorem dX6_untell_28 : decode cX6_untell 28 = .ok (.getfield 24, 3) := by decide +kernel
theorem dX6_untell_31 : decode cX6_untell 31 = .ok (.iaload, 1) := by decide +kernel
theorem dX6_untell_32 : decode cX6_untell 32 = .ok (.aload_n 0, 1) := by decide +kernel
theorem dX6_untell_33 : decode cX6_untell 33 = .ok (.getfield 21, 3) := by decide +kernel
theorem dX6_untell_36 : decode cX6_untell 36 = .ok (.aload_n 0, 1) := by decide +kernel
theorem dX6_untell_37 : decode cX6_untell 37 = .ok (.getfield 24, 3) := by decide +kernel
theorem dX6_untell_40 : decode cX6_untell 40 = .ok (.iaload, 1) := by decide +kernel
theorem dX6_untell_41 : decode cX6_untell 41 = .ok (.iastore, 1) := by decide +kernel
theorem dX6_untell_42 : decode cX6_untell 42 = .ok (.aload_n 0, 1) := by decide +kernel
theorem dX6_untell_43 : decode cX6_untell 43 = .ok (.getfield 24, 3) := by decide +kernel
theorem dX6_untell_46 : decode cX6_untell 46 = .ok (.ireturn, 1) := by decide +kernel
theorem dX6_forget_0 : decode cX6_forget 0 = .ok (.aload_n 0, 1) := by decide +kernel
theorem dX6_forget_1 : decode cX6_forget 1 = .ok (.iconst 0, 1) := by decide +kernel
theorem dX6_forget_2 : decode cX6_forget 2 = .ok (.putfield 24, 3) := by decide +kernel
theorem dX6_forget_5 : decode cX6_forget 5 = .ok (.aload_n 0, 1) := by decide +kernel
theorem dX6_forget_6 : decode cX6_forget 6 = .ok (.iconst 0, 1) := by decide +kernel
theorem dX6_forget_7 : decode cX6_forget 7 = .ok (.putfield 34, 3) := by decide +kernel
theorem dX6_forget_10 : decode cX6_forget 10 = .ok (.return_, 1) := by decide +kernel
theorem dX6_keepImage_0 : decode cX6_keepImage 0 = .ok (.aload_n 0, 1) := by decide +kernel
theorem dX6_keepImage_1 : decode cX6_keepImage 1 = .ok (.getfield 9, 3) := by decide +kernel
theorem dX6_keepImage_4 : decode cX6_keepImage 4 = .ok (.iconst 0, 1) := by decide +kernel
theorem dX6_keepImage_5 : decode cX6_keepImage 5 = .ok (.aload_n 0, 1) := by decide +kernel
theorem dX6_keepImage_6 : decode cX6_keepImage 6 = .ok (.getfield 15, 3) := by decide +kernel
theorem dX6_keepImage_9 : decode cX6_keepImage 9 = .ok (.iconst 0, 1) := by decide +kernel
theorem dX6_keepImage_10 : decode cX6_keepImage 10 = .ok (.aload_n 0, 1) := by decide +kernel
theorem dX6_keepImage_11 : decode cX6_keepImage 11 = .ok (.getfield 9, 3) := by decide +kernel
theorem dX6_keepImage_14 : decode cX6_keepImage 14 = .ok (.arraylength, 1) := by decide +kernel
theorem dX6_keepImage_15 : decode cX6_keepImage 15 = .ok (.invokestatic 28, 3) := by decide +kernel
theorem dX6_keepImage_18 : decode cX6_keepImage 18 = .ok (.aload_n 0, 1) := by decide +kernel
theorem dX6_keepImage_19 : decode cX6_keepImage 19 = .ok (.iconst 1, 1) := by decide +kernel
theorem dX6_keepImage_20 : decode cX6_keepImage 20 = .ok (.putfield 34, 3) := by decide +kernel
theorem dX6_keepImage_23 : decode cX6_keepImage 23 = .ok (.return_, 1) := by decide +kernel
theorem dX6_takeImage_0 : decode cX6_takeImage 0 = .ok (.aload_n 0, 1) := by decide +kernel
theorem dX6_takeImage_1 : decode cX6_takeImage 1 = .ok (.getfield 15, 3) := by decide +kernel
theorem dX6_takeImage_4 : decode cX6_takeImage 4 = .ok (.iconst 0, 1) := by decide +kernel
theorem dX6_takeImage_5 : decode cX6_takeImage 5 = .ok (.aload_n 0, 1) := by decide +kernel
theorem dX6_takeImage_6 : decode cX6_takeImage 6 = .ok (.getfield 9, 3) := by decide +kernel
theorem dX6_takeImage_9 : decode cX6_takeImage 9 = .ok (.iconst 0, 1) := by decide +kernel
theorem dX6_takeImage_10 : decode cX6_takeImage 10 = .ok (.aload_n 0, 1) := by decide +kernel
theorem dX6_takeImage_11 : decode cX6_takeImage 11 = .ok (.getfield 9, 3) := by decide +kernel
theorem dX6_takeImage_14 : decode cX6_takeImage 14 = .ok (.arraylength, 1) := by decide +kernel
theorem dX6_takeImage_15 : decode cX6_takeImage 15 = .ok (.invokestatic 28, 3) := by decide +kernel
theorem dX6_takeImage_18 : decode cX6_takeImage 18 = .ok (.aload_n 0, 1) := by decide +kernel
theorem dX6_takeImage_19 : decode cX6_takeImage 19 = .ok (.iconst 0, 1) := by decide +kernel
theorem dX6_takeImage_20 : decode cX6_takeImage 20 = .ok (.putfield 24, 3) := by decide +kernel
theorem dX6_takeImage_23 : decode cX6_takeImage 23 = .ok (.return_, 1) := by decide +kernel
theorem dX7_init_0 : decode cX7_init 0 = .ok (.aload_n 0, 1) := by decide +kernel
theorem dX7_init_1 : decode cX7_init 1 = .ok (.invokespecial 3, 3) := by decide +kernel
theorem dX7_init_4 : decode cX7_init 4 = .ok (.aload_n 0, 1) := by decide +kernel
theorem dX7_init_5 : decode cX7_init 5 = .ok (.new 9, 3) := by decide +kernel
theorem dX7_init_8 : decode cX7_init 8 = .ok (.dup, 1) := by decide +kernel
theorem dX7_init_9 : decode cX7_init 9 = .ok (.invokespecial 11, 3) := by decide +kernel
theorem dX7_init_12 : decode cX7_init 12 = .ok (.putfield 12, 3) := by decide +kernel
theorem dX7_init_15 : decode cX7_init 15 = .ok (.aload_n 0, 1) := by decide +kernel
theorem dX7_init_16 : decode cX7_init 16 = .ok (.bipush 8, 2) := by decide +kernel
theorem dX7_init_18 : decode cX7_init 18 = .ok (.newarray .int, 2) := by decide +kernel
theorem dX7_init_20 : decode cX7_init 20 = .ok (.putfield 18, 3) := by decide +kernel
theorem dX7_init_23 : decode cX7_init 23 = .ok (.aload_n 0, 1) := by decide +kernel
theorem dX7_init_24 : decode cX7_init 24 = .ok (.new 22, 3) := by decide +kernel
theorem dX7_init_27 : decode cX7_init 27 = .ok (.dup, 1) := by decide +kernel
theorem dX7_init_28 : decode cX7_init 28 = .ok (.invokespecial 24, 3) := by decide +kernel
theorem dX7_init_31 : decode cX7_init 31 = .ok (.putfield 25, 3) := by decide +kernel
theorem dX7_init_34 : decode cX7_init 34 = .ok (.aload_n 0, 1) := by decide +kernel
theorem dX7_init_35 : decode cX7_init 35 = .ok (.aload_n 1, 1) := by decide +kernel
theorem dX7_init_36 : decode cX7_init 36 = .ok (.putfield 29, 3) := by decide +kernel
theorem dX7_init_39 : decode cX7_init 39 = .ok (.return_, 1) := by decide +kernel
theorem dX7_openMask_0 : decode cX7_openMask 0 = .ok (.aload_n 0, 1) := by decide +kernel
theorem dX7_openMask_1 : decode cX7_openMask 1 = .ok (.getfield 12, 3) := by decide +kernel
theorem dX7_openMask_4 : decode cX7_openMask 4 = .ok (.getfield 33, 3) := by decide +kernel
theorem dX7_openMask_7 : decode cX7_openMask 7 = .ok (.iconst 4, 1) := by decide +kernel
theorem dX7_openMask_8 : decode cX7_openMask 8 = .ok (.iload_n 1, 1) := by decide +kernel
theorem dX7_openMask_9 : decode cX7_openMask 9 = .ok (.iadd, 1) := by decide +kernel
theorem dX7_openMask_10 : decode cX7_openMask 10 = .ok (.iaload, 1) := by decide +kernel
theorem dX7_openMask_11 : decode cX7_openMask 11 = .ok (.ireturn, 1) := by decide +kernel
theorem dX7_isOpen_0 : decode cX7_isOpen 0 = .ok (.aload_n 0, 1) := by decide +kernel
theorem dX7_isOpen_1 : decode cX7_isOpen 1 = .ok (.iload_n 1, 1) := by decide +kernel
theorem dX7_isOpen_2 : decode cX7_isOpen 2 = .ok (.invokevirtual 36, 3) := by decide +kernel
theorem dX7_isOpen_5 : decode cX7_isOpen 5 = .ok (.iload_n 2, 1) := by decide +kernel
theorem dX7_isOpen_6 : decode cX7_isOpen 6 = .ok (.ishr, 1) := by decide +kernel
theorem dX7_isOpen_7 : decode cX7_isOpen 7 = .ok (.iconst 1, 1) := by decide +kernel
theorem dX7_isOpen_8 : decode cX7_isOpen 8 = .ok (.iand, 1) := by decide +kernel
theorem dX7_isOpen_9 : decode cX7_isOpen 9 = .ok (.iconst 1, 1) := by decide +kernel
theorem dX7_isOpen_10 : decode cX7_isOpen 10 = .ok (.if_icmp .ne 7, 3) := by decide +kernel
theorem dX7_isOpen_13 : decode cX7_isOpen 13 = .ok (.iconst 1, 1) := by decide +kernel
theorem dX7_isOpen_14 : decode cX7_isOpen 14 = .ok (.goto 4, 3) := by decide +kernel
theorem dX7_isOpen_17 : decode cX7_isOpen 17 = .ok (.iconst 0, 1) := by decide +kernel
theorem dX7_isOpen_18 : decode cX7_isOpen 18 = .ok (.ireturn, 1) := by decide +kernel
theorem dX7_isThere_0 : decode cX7_isThere 0 = .ok (.iconst 0, 1) := by decide +kernel
theorem dX7_isThere_1 : decode cX7_isThere 1 = .ok (.istore_n 2, 1) := by decide +kernel
theorem dX7_isThere_2 : decode cX7_isThere 2 = .ok (.iload_n 2, 1) := by decide +kernel
theorem dX7_isThere_3 : decode cX7_isThere 3 = .ok (.aload_n 0, 1) := by decide +kernel
theorem dX7_isThere_4 : decode cX7_isThere 4 = .ok (.getfield 25, 3) := by decide +kernel
theorem dX7_isThere_7 : decode cX7_isThere 7 = .ok (.getfield 40, 3) := by decide +kernel
theorem dX7_isThere_10 : decode cX7_isThere 10 = .ok (.iload_n 1, 1) := by decide +kernel
theorem dX7_isThere_11 : decode cX7_isThere 11 = .ok (.iaload, 1) := by decide +kernel
theorem dX7_isThere_12 : decode cX7_isThere 12 = .ok (.if_icmp .ge 40, 3) := by decide +kernel
theorem dX7_isThere_15 : decode cX7_isThere 15 = .ok (.aload_n 0, 1) := by decide +kernel
theorem dX7_isThere_16 : decode cX7_isThere 16 = .ok (.aload_n 0, 1) := by decide +kernel
theorem dX7_isThere_17 : decode cX7_isThere 17 = .ok (.getfield 25, 3) := by decide +kernel
theorem dX7_isThere_20 : decode cX7_isThere 20 = .ok (.getfield 43, 3) := by decide +kernel
theorem dX7_isThere_23 : decode cX7_isThere 23 = .ok (.iload_n 1, 1) := by decide +kernel
theorem dX7_isThere_24 : decode cX7_isThere 24 = .ok (.aaload, 1) := by decide +kernel
theorem dX7_isThere_25 : decode cX7_isThere 25 = .ok (.iload_n 2, 1) := by decide +kernel
theorem dX7_isThere_26 : decode cX7_isThere 26 = .ok (.iaload, 1) := by decide +kernel
theorem dX7_isThere_27 : decode cX7_isThere 27 = .ok (.aload_n 0, 1) := by decide +kernel
theorem dX7_isThere_28 : decode cX7_isThere 28 = .ok (.getfield 25, 3) := by decide +kernel
theorem dX7_isThere_31 : decode cX7_isThere 31 = .ok (.getfield 47, 3) := by decide +kernel
theorem dX7_isThere_34 : decode cX7_isThere 34 = .ok (.iload_n 1, 1) := by decide +kernel
theorem dX7_isThere_35 : decode cX7_isThere 35 = .ok (.aaload, 1) := by decide +kernel
theorem dX7_isThere_36 : decode cX7_isThere 36 = .ok (.iload_n 2, 1) := by decide +kernel
theorem dX7_isThere_37 : decode cX7_isThere 37 = .ok (.iaload, 1) := by decide +kernel
theorem dX7_isThere_38 : decode cX7_isThere 38 = .ok (.invokevirtual 50, 3) := by decide +kernel
theorem dX7_isThere_41 : decode cX7_isThere 41 = .ok (.ifCond .ne 5, 3) := by decide +kernel
theorem dX7_isThere_44 : decode cX7_isThere 44 = .ok (.iconst 0, 1) := by decide +kernel
theorem dX7_isThere_45 : decode cX7_isThere 45 = .ok (.ireturn, 1) := by decide +kernel
theorem dX7_isThere_46 : decode cX7_isThere 46 = .ok (.iinc 2 1, 3) := by decide +kernel
theorem dX7_isThere_49 : decode cX7_isThere 49 = .ok (.goto (-47), 3) := by decide +kernel
theorem dX7_isThere_52 : decode cX7_isThere 52 = .ok (.iconst 1, 1) := by decide +kernel
theorem dX7_isThere_53 : decode cX7_isThere 53 = .ok (.ireturn, 1) := by decide +kernel
theorem dX7_thereBits_0 : decode cX7_thereBits 0 = .ok (.iconst 0, 1) := by decide +kernel
theorem dX7_thereBits_1 : decode cX7_thereBits 1 = .ok (.istore_n 1, 1) := by decide +kernel
theorem dX7_thereBits_2 : decode cX7_thereBits 2 = .ok (.iconst 0, 1) := by decide +kernel
theorem dX7_thereBits_3 : decode cX7_thereBits 3 = .ok (.istore_n 2, 1) := by decide +kernel
theorem dX7_thereBits_4 : decode cX7_thereBits 4 = .ok (.iload_n 2, 1) := by decide +kernel
theorem dX7_thereBits_5 : decode cX7_thereBits 5 = .ok (.aload_n 0, 1) := by decide +kernel
theorem dX7_thereBits_6 : decode cX7_thereBits 6 = .ok (.getfield 25, 3) := by decide +kernel
theorem dX7_thereBits_9 : decode cX7_thereBits 9 = .ok (.getfield 54, 3) := by decide +kernel
theorem dX7_thereBits_12 : decode cX7_thereBits 12 = .ok (.if_icmp .ge 27, 3) := by decide +kernel
theorem dX7_thereBits_15 : decode cX7_thereBits 15 = .ok (.iload_n 1, 1) := by decide +kernel
theorem dX7_thereBits_16 : decode cX7_thereBits 16 = .ok (.aload_n 0, 1) := by decide +kernel
theorem dX7_thereBits_17 : decode cX7_thereBits 17 = .ok (.iload_n 2, 1) := by decide +kernel
theorem dX7_thereBits_18 : decode cX7_thereBits 18 = .ok (.invokevirtual 58, 3) := by decide +kernel
theorem dX7_thereBits_21 : decode cX7_thereBits 21 = .ok (.ifCond .eq 9, 3) := by decide +kernel
theorem dX7_thereBits_24 : decode cX7_thereBits 24 = .ok (.iconst 1, 1) := by decide +kernel
theorem dX7_thereBits_25 : decode cX7_thereBits 25 = .ok (.iload_n 2, 1) := by decide +kernel
theorem dX7_thereBits_26 : decode cX7_thereBits 26 = .ok (.ishl, 1) := by decide +kernel
theorem dX7_thereBits_27 : decode cX7_thereBits 27 = .ok (.goto 4, 3) := by decide +kernel
theorem dX7_thereBits_30 : decode cX7_thereBits 30 = .ok (.iconst 0, 1) := by decide +kernel
theorem dX7_thereBits_31 : decode cX7_thereBits 31 = .ok (.ior, 1) := by decide +kernel
theorem dX7_thereBits_32 : decode cX7_thereBits 32 = .ok (.istore_n 1, 1) := by decide +kernel
theorem dX7_thereBits_33 : decode cX7_thereBits 33 = .ok (.iinc 2 1, 3) := by decide +kernel
theorem dX7_thereBits_36 : decode cX7_thereBits 36 = .ok (.goto (-32), 3) := by decide +kernel
theorem dX7_thereBits_39 : decode cX7_thereBits 39 = .ok (.iload_n 1, 1) := by decide +kernel
theorem dX7_thereBits_40 : decode cX7_thereBits 40 = .ok (.ireturn, 1) := by decide +kernel
theorem dX7_hasLaw_0 : decode cX7_hasLaw 0 = .ok (.aload_n 0, 1) := by decide +kernel
theorem dX7_hasLaw_1 : decode cX7_hasLaw 1 = .ok (.getfield 12, 3) := by decide +kernel
theorem dX7_hasLaw_4 : decode cX7_hasLaw 4 = .ok (.getfield 33, 3) := by decide +kernel
theorem dX7_hasLaw_7 : decode cX7_hasLaw 7 = .ok (.iconst 3, 1) := by decide +kernel
theorem dX7_hasLaw_8 : decode cX7_hasLaw 8 = .ok (.iaload, 1) := by decide +kernel
theorem dX7_hasLaw_9 : decode cX7_hasLaw 9 = .ok (.iload_n 1, 1) := by decide +kernel
theorem dX7_hasLaw_10 : decode cX7_hasLaw 10 = .ok (.iand, 1) := by decide +kernel
theorem dX7_hasLaw_11 : decode cX7_hasLaw 11 = .ok (.ifCond .eq 7, 3) := by decide +kernel
theorem dX7_hasLaw_14 : decode cX7_hasLaw 14 = .ok (.iconst 1, 1) := by decide +kernel
theorem dX7_hasLaw_15 : decode cX7_hasLaw 15 = .ok (.goto 4, 3) := by decide +kernel
theorem dX7_hasLaw_18 : decode cX7_hasLaw 18 = .ok (.iconst 0, 1) := by decide +kernel
theorem dX7_hasLaw_19 : decode cX7_hasLaw 19 = .ok (.ireturn, 1) := by decide +kernel
theorem dX7_isDead_0 : decode cX7_isDead 0 = .ok (.aload_n 0, 1) := by decide +kernel
theorem dX7_isDead_1 : decode cX7_isDead 1 = .ok (.getfield 25, 3) := by decide +kernel
theorem dX7_isDead_4 : decode cX7_isDead 4 = .ok (.getfield 62, 3) := by decide +kernel
theorem dX7_isDead_7 : decode cX7_isDead 7 = .ok (.iload_n 1, 1) := by decide +kernel
theorem dX7_isDead_8 : decode cX7_isDead 8 = .ok (.aaload, 1) := by decide +kernel
theorem dX7_isDead_9 : decode cX7_isDead 9 = .ok (.iconst 4, 1) := by decide +kernel
theorem dX7_isDead_10 : decode cX7_isDead 10 = .ok (.iaload, 1) := by decide +kernel
theorem dX7_isDead_11 : decode cX7_isDead 11 = .ok (.iconst 1, 1) := by decide +kernel
theorem dX7_isDead_12 : decode cX7_isDead 12 = .ok (.if_icmp .ne 7, 3) := by decide +kernel
theorem dX7_isDead_15 : decode cX7_isDead 15 = .ok (.iconst 1, 1) := by decide +kernel
theorem dX7_isDead_16 : decode cX7_isDead 16 = .ok (.goto 4, 3) := by decide +kernel
theorem dX7_isDead_19 : decode cX7_isDead 19 = .ok (.iconst 0, 1) := by decide +kernel
theorem dX7_isDead_20 : decode cX7_isDead 20 = .ok (.ireturn, 1) := by decide +kernel
theorem dX7_worthBy_0 : decode cX7_worthBy 0 = .ok (.aload_n 0, 1) := by decide +kernel
theorem dX7_worthBy_1 : decode cX7_worthBy 1 = .ok (.getfield 25, 3) := by decide +kernel
theorem dX7_worthBy_4 : decode cX7_worthBy 4 = .ok (.getfield 62, 3) := by decide +kernel
theorem dX7_worthBy_7 : decode cX7_worthBy 7 = .ok (.iload_n 2, 1) := by decide +kernel
theorem dX7_worthBy_8 : decode cX7_worthBy 8 = .ok (.aaload, 1) := by decide +kernel
theorem dX7_worthBy_9 : decode cX7_worthBy 9 = .ok (.iconst 0, 1) := by decide +kernel
theorem dX7_worthBy_10 : decode cX7_worthBy 10 = .ok (.aload_n 0, 1) := by decide +kernel
theorem dX7_worthBy_11 : decode cX7_worthBy 11 = .ok (.getfield 18, 3) := by decide +kernel
theorem dX7_worthBy_14 : decode cX7_worthBy 14 = .ok (.iconst 0, 1) := by decide +kernel
theorem dX7_worthBy_15 : decode cX7_worthBy 15 = .ok (.bipush 6, 2) := by decide +kernel
theorem dX7_worthBy_17 : decode cX7_worthBy 17 = .ok (.invokestatic 65, 3) := by decide +kernel
theorem dX7_worthBy_20 : decode cX7_worthBy 20 = .ok (.aload_n 0, 1) := by decide +kernel
theorem dX7_worthBy_21 : decode cX7_worthBy 21 = .ok (.getfield 18, 3) := by decide +kernel
theorem dX7_worthBy_24 : decode cX7_worthBy 24 = .ok (.bipush 6, 2) := by decide +kernel
theorem dX7_worthBy_26 : decode cX7_worthBy 26 = .ok (.iconst 0, 1) := by decide +kernel
theorem dX7_worthBy_27 : decode cX7_worthBy 27 = .ok (.iastore, 1) := by decide +kernel
theorem dX7_worthBy_28 : decode cX7_worthBy 28 = .ok (.aload_n 0, 1) := by decide +kernel
theorem dX7_worthBy_29 : decode cX7_worthBy 29 = .ok (.getfield 18, 3) := by decide +kernel
theorem dX7_worthBy_32 : decode cX7_worthBy 32 = .ok (.bipush 7, 2) := by decide +kernel
theorem dX7_worthBy_34 : decode cX7_worthBy 34 = .ok (.iconst 0, 1) := by decide +kernel
theorem dX7_worthBy_35 : decode cX7_worthBy 35 = .ok (.iastore, 1) := by decide +kernel
theorem dX7_worthBy_36 : decode cX7_worthBy 36 = .ok (.aload_n 0, 1) := by decide +kernel
theorem dX7_worthBy_37 : decode cX7_worthBy 37 = .ok (.getfield 29, 3) := by decide +kernel
theorem dX7_worthBy_40 : decode cX7_worthBy 40 = .ok (.iload_n 1, 1) := by decide +kernel
theorem dX7_worthBy_41 : decode cX7_worthBy 41 = .ok (.aaload, 1) := by decide +kernel
theorem dX7_worthBy_42 : decode cX7_worthBy 42 = .ok (.aload_n 0, 1) := by decide +kernel
theorem dX7_worthBy_43 : decode cX7_worthBy 43 = .ok (.getfield 18, 3) := by decide +kernel
theorem dX7_worthBy_46 : decode cX7_worthBy 46 = .ok (.invokevirtual 71, 3) := by decide +kernel
theorem dX7_worthBy_49 : decode cX7_worthBy 49 = .ok (.ireturn, 1) := by decide +kernel
theorem dX7_liked_0 : decode cX7_liked 0 = .ok (.aload_n 0, 1) := by decide +kernel
theorem dX7_liked_1 : decode cX7_liked 1 = .ok (.getfield 12, 3) := by decide +kernel
theorem dX7_liked_4 : decode cX7_liked 4 = .ok (.getfield 33, 3) := by decide +kernel
theorem dX7_liked_7 : decode cX7_liked 7 = .ok (.iconst 2, 1) := by decide +kernel
theorem dX7_liked_8 : decode cX7_liked 8 = .ok (.iaload, 1) := by decide +kernel
theorem dX7_liked_9 : decode cX7_liked 9 = .ok (.istore_n 2, 1) := by decide +kernel
theorem dX7_liked_10 : decode cX7_liked 10 = .ok (.aload_n 0, 1) := by decide +kernel
theorem dX7_liked_11 : decode cX7_liked 11 = .ok (.getfield 25, 3) := by decide +kernel
theorem dX7_liked_14 : decode cX7_liked 14 = .ok (.getfield 62, 3) := by decide +kernel
theorem dX7_liked_17 : decode cX7_liked 17 = .ok (.iload_n 1, 1) := by decide +kernel
theorem dX7_liked_18 : decode cX7_liked 18 = .ok (.aaload, 1) := by decide +kernel
theorem dX7_liked_19 : decode cX7_liked 19 = .ok (.astore_n 3, 1) := by decide +kernel
theorem dX7_liked_20 : decode cX7_liked 20 = .ok (.iload_n 2, 1) := by decide +kernel
theorem dX7_liked_21 : decode cX7_liked 21 = .ok (.iconst (-1), 1) := by decide +kernel
theorem dX7_liked_22 : decode cX7_liked 22 = .ok (.if_icmp .ne 17, 3) := by decide +kernel
theorem dX7_liked_25 : decode cX7_liked 25 = .ok (.aload_n 3, 1) := by decide +kernel
theorem dX7_liked_26 : decode cX7_liked 26 = .ok (.iconst 1, 1) := by decide +kernel
theorem dX7_liked_27 : decode cX7_liked 27 = .ok (.iaload, 1) := by decide +kernel
theorem dX7_liked_28 : decode cX7_liked 28 = .ok (.aload_n 3, 1) := by decide +kernel
theorem dX7_liked_29 : decode cX7_liked 29 = .ok (.iconst 0, 1) := by decide +kernel
theorem dX7_liked_30 : decode cX7_liked 30 = .ok (.iaload, 1) := by decide +kernel
theorem dX7_liked_31 : decode cX7_liked 31 = .ok (.iadd, 1) := by decide +kernel
theorem dX7_liked_32 : decode cX7_liked 32 = .ok (.aload_n 3, 1) := by decide +kernel
theorem dX7_liked_33 : decode cX7_liked 33 = .ok (.iconst 2, 1) := by decide +kernel
theorem dX7_liked_34 : decode cX7_liked 34 = .ok (.iaload, 1) := by decide +kernel
theorem dX7_liked_35 : decode cX7_liked 35 = .ok (.isub, 1) := by decide +kernel
theorem dX7_liked_36 : decode cX7_liked 36 = .ok (.goto 9, 3) := by decide +kernel
theorem dX7_liked_39 : decode cX7_liked 39 = .ok (.aload_n 0, 1) := by decide +kernel
theorem dX7_liked_40 : decode cX7_liked 40 = .ok (.iload_n 2, 1) := by decide +kernel
theorem dX7_liked_41 : decode cX7_liked 41 = .ok (.iload_n 1, 1) := by decide +kernel
theorem dX7_liked_42 : decode cX7_liked 42 = .ok (.invokevirtual 77, 3) := by decide +kernel
theorem dX7_liked_45 : decode cX7_liked 45 = .ok (.ireturn, 1) := by decide +kernel
theorem dX7_chosen_0 : decode cX7_chosen 0 = .ok (.iconst (-1), 1) := by decide +kernel
theorem dX7_chosen_1 : decode cX7_chosen 1 = .ok (.istore_n 3, 1) := by decide +kernel
theorem dX7_chosen_2 : decode cX7_chosen 2 = .ok (.iconst 0, 1) := by decide +kernel
theorem dX7_chosen_3 : decode cX7_chosen 3 = .ok (.istore 4, 2) := by decide +kernel
theorem dX7_chosen_5 : decode cX7_chosen 5 = .ok (.iconst 0, 1) := by decide +kernel
theorem dX7_chosen_6 : decode cX7_chosen 6 = .ok (.istore 5, 2) := by decide +kernel
theorem dX7_chosen_8 : decode cX7_chosen 8 = .ok (.iload 5, 2) := by decide +kernel
theorem dX7_chosen_10 : decode cX7_chosen 10 = .ok (.aload_n 0, 1) := by decide +kernel
theorem dX7_chosen_11 : decode cX7_chosen 11 = .ok (.getfield 25, 3) := by decide +kernel
theorem dX7_chosen_14 : decode cX7_chosen 14 = .ok (.getfield 81, 3) := by decide +kernel
theorem dX7_chosen_17 : decode cX7_chosen 17 = .ok (.iload_n 1, 1) := by decide +kernel
theorem dX7_chosen_18 : decode cX7_chosen 18 = .ok (.iaload, 1) := by decide +kernel
theorem dX7_chosen_19 : decode cX7_chosen 19 = .ok (.if_icmp .ge 51, 3) := by decide +kernel
theorem dX7_chosen_22 : decode cX7_chosen 22 = .ok (.iload_n 2, 1) := by decide +kernel
theorem dX7_chosen_23 : decode cX7_chosen 23 = .ok (.iload 5, 2) := by decide +kernel
theorem dX7_chosen_25 : decode cX7_chosen 25 = .ok (.ishr, 1) := by decide +kernel
theorem dX7_chosen_26 : decode cX7_chosen 26 = .ok (.iconst 1, 1) := by decide +kernel
theorem dX7_chosen_27 : decode cX7_chosen 27 = .ok (.iand, 1) := by decide +kernel
theorem dX7_chosen_28 : decode cX7_chosen 28 = .ok (.iconst 1, 1) := by decide +kernel
theorem dX7_chosen_29 : decode cX7_chosen 29 = .ok (.if_icmp .ne 35, 3) := by decide +kernel
theorem dX7_chosen_32 : decode cX7_chosen 32 = .ok (.aload_n 0, 1) := by decide +kernel
theorem dX7_chosen_33 : decode cX7_chosen 33 = .ok (.iload_n 1, 1) := by decide +kernel
theorem dX7_chosen_34 : decode cX7_chosen 34 = .ok (.iload 5, 2) := by decide +kernel
theorem dX7_chosen_36 : decode cX7_chosen 36 = .ok (.iload_n 2, 1) := by decide +kernel
theorem dX7_chosen_37 : decode cX7_chosen 37 = .ok (.invokestatic 84, 3) := by decide +kernel
theorem dX7_chosen_40 : decode cX7_chosen 40 = .ok (.invokevirtual 89, 3) := by decide +kernel
theorem dX7_chosen_43 : decode cX7_chosen 43 = .ok (.istore 6, 2) := by decide +kernel
theorem dX7_chosen_45 : decode cX7_chosen 45 = .ok (.iload_n 3, 1) := by decide +kernel
theorem dX7_chosen_46 : decode cX7_chosen 46 = .ok (.iconst (-1), 1) := by decide +kernel
theorem dX7_chosen_47 : decode cX7_chosen 47 = .ok (.if_icmp .eq 10, 3) := by decide +kernel
theorem dX7_chosen_50 : decode cX7_chosen 50 = .ok (.iload 6, 2) := by decide +kernel
theorem dX7_chosen_52 : decode cX7_chosen 52 = .ok (.iload 4, 2) := by decide +kernel
theorem dX7_chosen_54 : decode cX7_chosen 54 = .ok (.if_icmp .le 10, 3) := by decide +kernel
theorem dX7_chosen_57 : decode cX7_chosen 57 = .ok (.iload 5, 2) := by decide +kernel
theorem dX7_chosen_59 : decode cX7_chosen 59 = .ok (.istore_n 3, 1) := by decide +kernel
theorem dX7_chosen_60 : decode cX7_chosen 60 = .ok (.iload 6, 2) := by decide +kernel
theorem dX7_chosen_62 : decode cX7_chosen 62 = .ok (.istore 4, 2) := by decide +kernel
theorem dX7_chosen_64 : decode cX7_chosen 64 = .ok (.iinc 5 1, 3) := by decide +kernel
theorem dX7_chosen_67 : decode cX7_chosen 67 = .ok (.goto (-59), 3) := by decide +kernel
theorem dX7_chosen_70 : decode cX7_chosen 70 = .ok (.iload_n 3, 1) := by decide +kernel
theorem dX7_chosen_71 : decode cX7_chosen 71 = .ok (.ireturn, 1) := by decide +kernel
theorem dX7_rankOf_0 : decode cX7_rankOf 0 = .ok (.aload_n 0, 1) := by decide +kernel
theorem dX7_rankOf_1 : decode cX7_rankOf 1 = .ok (.getfield 12, 3) := by decide +kernel
theorem dX7_rankOf_4 : decode cX7_rankOf 4 = .ok (.getfield 33, 3) := by decide +kernel
theorem dX7_rankOf_7 : decode cX7_rankOf 7 = .ok (.iconst 0, 1) := by decide +kernel
theorem dX7_rankOf_8 : decode cX7_rankOf 8 = .ok (.iaload, 1) := by decide +kernel
theorem dX7_rankOf_9 : decode cX7_rankOf 9 = .ok (.iconst 2, 1) := by decide +kernel
theorem dX7_rankOf_10 : decode cX7_rankOf 10 = .ok (.if_icmp .ne 5, 3) := by decide +kernel
theorem dX7_rankOf_13 : decode cX7_rankOf 13 = .ok (.iload_n 2, 1) := by decide +kernel
theorem dX7_rankOf_14 : decode cX7_rankOf 14 = .ok (.ireturn, 1) := by decide +kernel
theorem dX7_rankOf_15 : decode cX7_rankOf 15 = .ok (.aload_n 0, 1) := by decide +kernel
theorem dX7_rankOf_16 : decode cX7_rankOf 16 = .ok (.getfield 12, 3) := by decide +kernel
theorem dX7_rankOf_19 : decode cX7_rankOf 19 = .ok (.getfield 33, 3) := by decide +kernel
theorem dX7_rankOf_22 : decode cX7_rankOf 22 = .ok (.iconst 0, 1) := by decide +kernel
theorem dX7_rankOf_23 : decode cX7_rankOf 23 = .ok (.iaload, 1) := by decide +kernel
theorem dX7_rankOf_24 : decode cX7_rankOf 24 = .ok (.ifCond .ne 16, 3) := by decide +kernel
theorem dX7_rankOf_27 : decode cX7_rankOf 27 = .ok (.aload_n 0, 1) := by decide +kernel
theorem dX7_rankOf_28 : decode cX7_rankOf 28 = .ok (.getfield 12, 3) := by decide +kernel
theorem dX7_rankOf_31 : decode cX7_rankOf 31 = .ok (.getfield 33, 3) := by decide +kernel
theorem dX7_rankOf_34 : decode cX7_rankOf 34 = .ok (.iconst 1, 1) := by decide +kernel
theorem dX7_rankOf_35 : decode cX7_rankOf 35 = .ok (.iaload, 1) := by decide +kernel
theorem dX7_rankOf_36 : decode cX7_rankOf 36 = .ok (.iconst (-1), 1) := by decide +kernel
theorem dX7_rankOf_37 : decode cX7_rankOf 37 = .ok (.if_icmp .ne 5, 3) := by decide +kernel
theorem dX7_rankOf_40 : decode cX7_rankOf 40 = .ok (.iconst 0, 1) := by decide +kernel
theorem dX7_rankOf_41 : decode cX7_rankOf 41 = .ok (.ireturn, 1) := by decide +kernel
theorem dX7_rankOf_42 : decode cX7_rankOf 42 = .ok (.aload_n 0, 1) := by decide +kernel
theorem dX7_rankOf_43 : decode cX7_rankOf 43 = .ok (.getfield 18, 3) := by decide +kernel
theorem dX7_rankOf_46 : decode cX7_rankOf 46 = .ok (.iconst 0, 1) := by decide +kernel
theorem dX7_rankOf_47 : decode cX7_rankOf 47 = .ok (.aload_n 0, 1) := by decide +kernel
theorem dX7_rankOf_48 : decode cX7_rankOf 48 = .ok (.getfield 25, 3) := by decide +kernel
theorem dX7_rankOf_51 : decode cX7_rankOf 51 = .ok (.iload_n 1, 1) := by decide +kernel
theorem dX7_rankOf_52 : decode cX7_rankOf 52 = .ok (.iload_n 2, 1) := by decide +kernel
theorem dX7_rankOf_53 : decode cX7_rankOf 53 = .ok (.iconst 1, 1) := by decide +kernel
theorem dX7_rankOf_54 : decode cX7_rankOf 54 = .ok (.invokevirtual 93, 3) := by decide +kernel
theorem dX7_rankOf_57 : decode cX7_rankOf 57 = .ok (.iastore, 1) := by decide +kernel
theorem dX7_rankOf_58 : decode cX7_rankOf 58 = .ok (.aload_n 0, 1) := by decide +kernel
theorem dX7_rankOf_59 : decode cX7_rankOf 59 = .ok (.getfield 18, 3) := by decide +kernel
theorem dX7_rankOf_62 : decode cX7_rankOf 62 = .ok (.iconst 1, 1) := by decide +kernel
theorem dX7_rankOf_63 : decode cX7_rankOf 63 = .ok (.aload_n 0, 1) := by decide +kernel
theorem dX7_rankOf_64 : decode cX7_rankOf 64 = .ok (.getfield 25, 3) := by decide +kernel
theorem dX7_rankOf_67 : decode cX7_rankOf 67 = .ok (.iload_n 1, 1) := by decide +kernel
theorem dX7_rankOf_68 : decode cX7_rankOf 68 = .ok (.iload_n 2, 1) := by decide +kernel
theorem dX7_rankOf_69 : decode cX7_rankOf 69 = .ok (.iconst 2, 1) := by decide +kernel
theorem dX7_rankOf_70 : decode cX7_rankOf 70 = .ok (.invokevirtual 93, 3) := by decide +kernel
theorem dX7_rankOf_73 : decode cX7_rankOf 73 = .ok (.iastore, 1) := by decide +kernel
theorem dX7_rankOf_74 : decode cX7_rankOf 74 = .ok (.aload_n 0, 1) := by decide +kernel
theorem dX7_rankOf_75 : decode cX7_rankOf 75 = .ok (.getfield 18, 3) := by decide +kernel
theorem dX7_rankOf_78 : decode cX7_rankOf 78 = .ok (.iconst 2, 1) := by decide +kernel
theorem dX7_rankOf_79 : decode cX7_rankOf 79 = .ok (.aload_n 0, 1) := by decide +kernel
theorem dX7_rankOf_80 : decode cX7_rankOf 80 = .ok (.getfield 25, 3) := by decide +kernel
theorem dX7_rankOf_83 : decode cX7_rankOf 83 = .ok (.iload_n 1, 1) := by decide +kernel
theorem dX7_rankOf_84 : decode cX7_rankOf 84 = .ok (.iload_n 2, 1) := by decide +kernel
theorem dX7_rankOf_85 : decode cX7_rankOf 85 = .ok (.iconst 3, 1) := by decide +kernel
theorem dX7_rankOf_86 : decode cX7_rankOf 86 = .ok (.invokevirtual 93, 3) := by decide +kernel
theorem dX7_rankOf_89 : decode cX7_rankOf 89 = .ok (.iastore, 1) := by decide +kernel
theorem dX7_rankOf_90 : decode cX7_rankOf 90 = .ok (.aload_n 0, 1) := by decide +kernel
theorem dX7_rankOf_91 : decode cX7_rankOf 91 = .ok (.getfield 18, 3) := by decide +kernel
theorem dX7_rankOf_94 : decode cX7_rankOf 94 = .ok (.iconst 3, 1) := by decide +kernel
theorem dX7_rankOf_95 : decode cX7_rankOf 95 = .ok (.aload_n 0, 1) := by decide +kernel
theorem dX7_rankOf_96 : decode cX7_rankOf 96 = .ok (.getfield 25, 3) := by decide +kernel
theorem dX7_rankOf_99 : decode cX7_rankOf 99 = .ok (.getfield 96, 3) := by decide +kernel
theorem dX7_rankOf_102 : decode cX7_rankOf 102 = .ok (.iload_n 1, 1) := by decide +kernel
theorem dX7_rankOf_103 : decode cX7_rankOf 103 = .ok (.iaload, 1) := by decide +kernel
theorem dX7_rankOf_104 : decode cX7_rankOf 104 = .ok (.iastore, 1) := by decide +kernel
theorem dX7_rankOf_105 : decode cX7_rankOf 105 = .ok (.aload_n 0, 1) := by decide +kernel
theorem dX7_rankOf_106 : decode cX7_rankOf 106 = .ok (.getfield 18, 3) := by decide +kernel
theorem dX7_rankOf_109 : decode cX7_rankOf 109 = .ok (.iconst 4, 1) := by decide +kernel
theorem dX7_rankOf_110 : decode cX7_rankOf 110 = .ok (.iconst 0, 1) := by decide +kernel
theorem dX7_rankOf_111 : decode cX7_rankOf 111 = .ok (.iastore, 1) := by decide +kernel
theorem dX7_rankOf_112 : decode cX7_rankOf 112 = .ok (.aload_n 0, 1) := by decide +kernel
theorem dX7_rankOf_113 : decode cX7_rankOf 113 = .ok (.getfield 18, 3) := by decide +kernel
theorem dX7_rankOf_116 : decode cX7_rankOf 116 = .ok (.iconst 5, 1) := by decide +kernel
theorem dX7_rankOf_117 : decode cX7_rankOf 117 = .ok (.iload_n 3, 1) := by decide +kernel
theorem dX7_rankOf_118 : decode cX7_rankOf 118 = .ok (.iastore, 1) := by decide +kernel
theorem dX7_rankOf_119 : decode cX7_rankOf 119 = .ok (.aload_n 0, 1) := by decide +kernel
theorem dX7_rankOf_120 : decode cX7_rankOf 120 = .ok (.getfield 18, 3) := by decide +kernel
theorem dX7_rankOf_123 : decode cX7_rankOf 123 = .ok (.bipush 6, 2) := by decide +kernel
theorem dX7_rankOf_125 : decode cX7_rankOf 125 = .ok (.iload_n 2, 1) := by decide +kernel
theorem dX7_rankOf_126 : decode cX7_rankOf 126 = .ok (.iastore, 1) := by decide +kernel
theorem dX7_rankOf_127 : decode cX7_rankOf 127 = .ok (.aload_n 0, 1) := by decide +kernel
theorem dX7_rankOf_128 : decode cX7_rankOf 128 = .ok (.getfield 18, 3) := by decide +kernel
theorem dX7_rankOf_131 : decode cX7_rankOf 131 = .ok (.bipush 7, 2) := by decide +kernel
theorem dX7_rankOf_133 : decode cX7_rankOf 133 = .ok (.aload_n 0, 1) := by decide +kernel
theorem dX7_rankOf_134 : decode cX7_rankOf 134 = .ok (.getfield 25, 3) := by decide +kernel
theorem dX7_rankOf_137 : decode cX7_rankOf 137 = .ok (.iload_n 1, 1) := by decide +kernel
theorem dX7_rankOf_138 : decode cX7_rankOf 138 = .ok (.iload_n 2, 1) := by decide +kernel
theorem dX7_rankOf_139 : decode cX7_rankOf 139 = .ok (.invokevirtual 99, 3) := by decide +kernel
theorem dX7_rankOf_142 : decode cX7_rankOf 142 = .ok (.iastore, 1) := by decide +kernel
theorem dX7_rankOf_143 : decode cX7_rankOf 143 = .ok (.aload_n 0, 1) := by decide +kernel
theorem dX7_rankOf_144 : decode cX7_rankOf 144 = .ok (.getfield 29, 3) := by decide +kernel
theorem dX7_rankOf_147 : decode cX7_rankOf 147 = .ok (.aload_n 0, 1) := by decide +kernel
theorem dX7_rankOf_148 : decode cX7_rankOf 148 = .ok (.getfield 12, 3) := by decide +kernel
theorem dX7_rankOf_151 : decode cX7_rankOf 151 = .ok (.getfield 33, 3) := by decide +kernel
theorem dX7_rankOf_154 : decode cX7_rankOf 154 = .ok (.iconst 1, 1) := by decide +kernel
theorem dX7_rankOf_155 : decode cX7_rankOf 155 = .ok (.iaload, 1) := by decide +kernel
theorem dX7_rankOf_156 : decode cX7_rankOf 156 = .ok (.aaload, 1) := by decide +kernel
theorem dX7_rankOf_157 : decode cX7_rankOf 157 = .ok (.aload_n 0, 1) := by decide +kernel
theorem dX7_rankOf_158 : decode cX7_rankOf 158 = .ok (.getfield 18, 3) := by decide +kernel
theorem dX7_rankOf_161 : decode cX7_rankOf 161 = .ok (.invokevirtual 71, 3) := by decide +kernel
theorem dX7_rankOf_164 : decode cX7_rankOf 164 = .ok (.ireturn, 1) := by decide +kernel
theorem dX7_parts_0 : decode cX7_parts 0 = .ok (.ldc 102, 2) := by decide +kernel
theorem dX7_parts_2 : decode cX7_parts 2 = .ok (.istore_n 3, 1) := by decide +kernel
theorem dX7_parts_3 : decode cX7_parts 3 = .ok (.iconst 0, 1) := by decide +kernel
theorem dX7_parts_4 : decode cX7_parts 4 = .ok (.istore 4, 2) := by decide +kernel
theorem dX7_parts_6 : decode cX7_parts 6 = .ok (.iload 4, 2) := by decide +kernel
theorem dX7_parts_8 : decode cX7_parts 8 = .ok (.aload_n 0, 1) := by decide +kernel
theorem dX7_parts_9 : decode cX7_parts 9 = .ok (.getfield 25, 3) := by decide +kernel
theorem dX7_parts_12 : decode cX7_parts 12 = .ok (.getfield 40, 3) := by decide +kernel
theorem dX7_parts_15 : decode cX7_parts 15 = .ok (.iload_n 1, 1) := by decide +kernel
theorem dX7_parts_16 : decode cX7_parts 16 = .ok (.iaload, 1) := by decide +kernel
theorem dX7_parts_17 : decode cX7_parts 17 = .ok (.if_icmp .ge 69, 3) := by decide +kernel
theorem dX7_parts_20 : decode cX7_parts 20 = .ok (.aload_n 0, 1) := by decide +kernel
theorem dX7_parts_21 : decode cX7_parts 21 = .ok (.getfield 25, 3) := by decide +kernel
theorem dX7_parts_24 : decode cX7_parts 24 = .ok (.getfield 43, 3) := by decide +kernel
theorem dX7_parts_27 : decode cX7_parts 27 = .ok (.iload_n 1, 1) := by decide +kernel
theorem dX7_parts_28 : decode cX7_parts 28 = .ok (.aaload, 1) := by decide +kernel
theorem dX7_parts_29 : decode cX7_parts 29 = .ok (.iload 4, 2) := by decide +kernel
theorem dX7_parts_31 : decode cX7_parts 31 = .ok (.iaload, 1) := by decide +kernel
theorem dX7_parts_32 : decode cX7_parts 32 = .ok (.istore 5, 2) := by decide +kernel
theorem dX7_parts_34 : decode cX7_parts 34 = .ok (.iload_n 2, 1) := by decide +kernel
theorem dX7_parts_35 : decode cX7_parts 35 = .ok (.ifCond .eq 15, 3) := by decide +kernel
theorem dX7_parts_38 : decode cX7_parts 38 = .ok (.aload_n 0, 1) := by decide +kernel
theorem dX7_parts_39 : decode cX7_parts 39 = .ok (.getfield 25, 3) := by decide +kernel
theorem dX7_parts_42 : decode cX7_parts 42 = .ok (.iload 5, 2) := by decide +kernel
theorem dX7_parts_44 : decode cX7_parts 44 = .ok (.invokevirtual 103, 3) := by decide +kernel
theorem dX7_parts_47 : decode cX7_parts 47 = .ok (.goto 9, 3) := by decide +kernel
theorem dX7_parts_50 : decode cX7_parts 50 = .ok (.aload_n 0, 1) := by decide +kernel
theorem dX7_parts_51 : decode cX7_parts 51 = .ok (.iload 5, 2) := by decide +kernel
theorem dX7_parts_53 : decode cX7_parts 53 = .ok (.invokevirtual 36, 3) := by decide +kernel
theorem dX7_parts_56 : decode cX7_parts 56 = .ok (.istore 6, 2) := by decide +kernel
theorem dX7_parts_58 : decode cX7_parts 58 = .ok (.aload_n 0, 1) := by decide +kernel
theorem dX7_parts_59 : decode cX7_parts 59 = .ok (.iload_n 3, 1) := by decide +kernel
theorem dX7_parts_60 : decode cX7_parts 60 = .ok (.iload 5, 2) := by decide +kernel
theorem dX7_parts_62 : decode cX7_parts 62 = .ok (.aload_n 0, 1) := by decide +kernel
theorem dX7_parts_63 : decode cX7_parts 63 = .ok (.getfield 25, 3) := by decide +kernel
theorem dX7_parts_66 : decode cX7_parts 66 = .ok (.getfield 47, 3) := by decide +kernel
theorem dX7_parts_69 : decode cX7_parts 69 = .ok (.iload_n 1, 1) := by decide +kernel
theorem dX7_parts_70 : decode cX7_parts 70 = .ok (.aaload, 1) := by decide +kernel
theorem dX7_parts_71 : decode cX7_parts 71 = .ok (.iload 4, 2) := by decide +kernel
theorem dX7_parts_73 : decode cX7_parts 73 = .ok (.iaload, 1) := by decide +kernel
theorem dX7_parts_74 : decode cX7_parts 74 = .ok (.iload 6, 2) := by decide +kernel
theorem dX7_parts_76 : decode cX7_parts 76 = .ok (.invokevirtual 106, 3) := by decide +kernel
theorem dX7_parts_79 : decode cX7_parts 79 = .ok (.istore_n 3, 1) := by decide +kernel
theorem dX7_parts_80 : decode cX7_parts 80 = .ok (.iinc 4 1, 3) := by decide +kernel
theorem dX7_parts_83 : decode cX7_parts 83 = .ok (.goto (-77), 3) := by decide +kernel
theorem dX7_parts_86 : decode cX7_parts 86 = .ok (.iload_n 3, 1) := by decide +kernel
theorem dX7_parts_87 : decode cX7_parts 87 = .ok (.ireturn, 1) := by decide +kernel
theorem dX7_partsBehind_0 : decode cX7_partsBehind 0 = .ok (.iload 4, 2) := by decide +kernel
theorem dX7_partsBehind_2 : decode cX7_partsBehind 2 = .ok (.iload_n 3, 1) := by decide +kernel
theorem dX7_partsBehind_3 : decode cX7_partsBehind 3 = .ok (.ishr, 1) := by decide +kernel
theorem dX7_partsBehind_4 : decode cX7_partsBehind 4 = .ok (.iconst 1, 1) := by decide +kernel
theorem dX7_partsBehind_5 : decode cX7_partsBehind 5 = .ok (.iand, 1) := by decide +kernel
theorem dX7_partsBehind_6 : decode cX7_partsBehind 6 = .ok (.ifCond .ne 5, 3) := by decide +kernel
theorem dX7_partsBehind_9 : decode cX7_partsBehind 9 = .ok (.iconst 0, 1) := by decide +kernel
theorem dX7_partsBehind_10 : decode cX7_partsBehind 10 = .ok (.ireturn, 1) := by decide +kernel
theorem dX7_partsBehind_11 : decode cX7_partsBehind 11 = .ok (.aload_n 0, 1) := by decide +kernel
theorem dX7_partsBehind_12 : decode cX7_partsBehind 12 = .ok (.getfield 25, 3) := by decide +kernel
theorem dX7_partsBehind_15 : decode cX7_partsBehind 15 = .ok (.getfield 110, 3) := by decide +kernel
theorem dX7_partsBehind_18 : decode cX7_partsBehind 18 = .ok (.iload_n 2, 1) := by decide +kernel
theorem dX7_partsBehind_19 : decode cX7_partsBehind 19 = .ok (.iaload, 1) := by decide +kernel
theorem dX7_partsBehind_20 : decode cX7_partsBehind 20 = .ok (.iconst 1, 1) := by decide +kernel
theorem dX7_partsBehind_21 : decode cX7_partsBehind 21 = .ok (.if_icmp .ne 43, 3) := by decide +kernel
theorem dX7_partsBehind_24 : decode cX7_partsBehind 24 = .ok (.aload_n 0, 1) := by decide +kernel
theorem dX7_partsBehind_25 : decode cX7_partsBehind 25 = .ok (.getfield 25, 3) := by decide +kernel
theorem dX7_partsBehind_28 : decode cX7_partsBehind 28 = .ok (.iload_n 2, 1) := by decide +kernel
theorem dX7_partsBehind_29 : decode cX7_partsBehind 29 = .ok (.iload 4, 2) := by decide +kernel
theorem dX7_partsBehind_31 : decode cX7_partsBehind 31 = .ok (.invokevirtual 113, 3) := by decide +kernel
theorem dX7_partsBehind_34 : decode cX7_partsBehind 34 = .ok (.istore 5, 2) := by decide +kernel
theorem dX7_partsBehind_36 : decode cX7_partsBehind 36 = .ok (.iload 5, 2) := by decide +kernel
theorem dX7_partsBehind_38 : decode cX7_partsBehind 38 = .ok (.ifCond .ne 7, 3) := by decide +kernel
theorem dX7_partsBehind_41 : decode cX7_partsBehind 41 = .ok (.iconst 0, 1) := by decide +kernel
theorem dX7_partsBehind_42 : decode cX7_partsBehind 42 = .ok (.goto 21, 3) := by decide +kernel
theorem dX7_partsBehind_45 : decode cX7_partsBehind 45 = .ok (.iload_n 1, 1) := by decide +kernel
theorem dX7_partsBehind_46 : decode cX7_partsBehind 46 = .ok (.i2l, 1) := by decide +kernel
theorem dX7_partsBehind_47 : decode cX7_partsBehind 47 = .ok (.aload_n 0, 1) := by decide +kernel
theorem dX7_partsBehind_48 : decode cX7_partsBehind 48 = .ok (.getfield 25, 3) := by decide +kernel
theorem dX7_partsBehind_51 : decode cX7_partsBehind 51 = .ok (.iload_n 2, 1) := by decide +kernel
theorem dX7_partsBehind_52 : decode cX7_partsBehind 52 = .ok (.iload_n 3, 1) := by decide +kernel
theorem dX7_partsBehind_53 : decode cX7_partsBehind 53 = .ok (.invokevirtual 99, 3) := by decide +kernel
theorem dX7_partsBehind_56 : decode cX7_partsBehind 56 = .ok (.i2l, 1) := by decide +kernel
theorem dX7_partsBehind_57 : decode cX7_partsBehind 57 = .ok (.lmul, 1) := by decide +kernel
theorem dX7_partsBehind_58 : decode cX7_partsBehind 58 = .ok (.iload 5, 2) := by decide +kernel
theorem dX7_partsBehind_60 : decode cX7_partsBehind 60 = .ok (.i2l, 1) := by decide +kernel
theorem dX7_partsBehind_61 : decode cX7_partsBehind 61 = .ok (.ldiv, 1) := by decide +kernel
theorem dX7_partsBehind_62 : decode cX7_partsBehind 62 = .ok (.l2i, 1) := by decide +kernel
theorem dX7_partsBehind_63 : decode cX7_partsBehind 63 = .ok (.ireturn, 1) := by decide +kernel
theorem dX7_partsBehind_64 : decode cX7_partsBehind 64 = .ok (.aload_n 0, 1) := by decide +kernel
theorem dX7_partsBehind_65 : decode cX7_partsBehind 65 = .ok (.getfield 12, 3) := by decide +kernel
theorem dX7_partsBehind_68 : decode cX7_partsBehind 68 = .ok (.getfield 33, 3) := by decide +kernel
theorem dX7_partsBehind_71 : decode cX7_partsBehind 71 = .ok (.iconst 0, 1) := by decide +kernel
theorem dX7_partsBehind_72 : decode cX7_partsBehind 72 = .ok (.iaload, 1) := by decide +kernel
theorem dX7_partsBehind_73 : decode cX7_partsBehind 73 = .ok (.iconst 3, 1) := by decide +kernel
theorem dX7_partsBehind_74 : decode cX7_partsBehind 74 = .ok (.if_icmp .ne 24, 3) := by decide +kernel
theorem dX7_partsBehind_77 : decode cX7_partsBehind 77 = .ok (.iload 4, 2) := by decide +kernel
theorem dX7_partsBehind_79 : decode cX7_partsBehind 79 = .ok (.invokestatic 84, 3) := by decide +kernel
theorem dX7_partsBehind_82 : decode cX7_partsBehind 82 = .ok (.istore 5, 2) := by decide +kernel
theorem dX7_partsBehind_84 : decode cX7_partsBehind 84 = .ok (.iload 5, 2) := by decide +kernel
theorem dX7_partsBehind_86 : decode cX7_partsBehind 86 = .ok (.ifCond .ne 7, 3) := by decide +kernel
theorem dX7_partsBehind_89 : decode cX7_partsBehind 89 = .ok (.iconst 0, 1) := by decide +kernel
theorem dX7_partsBehind_90 : decode cX7_partsBehind 90 = .ok (.goto 7, 3) := by decide +kernel
theorem dX7_partsBehind_93 : decode cX7_partsBehind 93 = .ok (.iload_n 1, 1) := by decide +kernel
theorem dX7_partsBehind_94 : decode cX7_partsBehind 94 = .ok (.iload 5, 2) := by decide +kernel
theorem dX7_partsBehind_96 : decode cX7_partsBehind 96 = .ok (.idiv, 1) := by decide +kernel
theorem dX7_partsBehind_97 : decode cX7_partsBehind 97 = .ok (.ireturn, 1) := by decide +kernel
theorem dX7_partsBehind_98 : decode cX7_partsBehind 98 = .ok (.aload_n 0, 1) := by decide +kernel
theorem dX7_partsBehind_99 : decode cX7_partsBehind 99 = .ok (.iload_n 2, 1) := by decide +kernel
theorem dX7_partsBehind_100 : decode cX7_partsBehind 100 = .ok (.iload 4, 2) := by decide +kernel
theorem dX7_partsBehind_102 : decode cX7_partsBehind 102 = .ok (.invokevirtual 116, 3) := by decide +kernel
theorem dX7_partsBehind_105 : decode cX7_partsBehind 105 = .ok (.iload_n 3, 1) := by decide +kernel
theorem dX7_partsBehind_106 : decode cX7_partsBehind 106 = .ok (.if_icmp .ne 7, 3) := by decide +kernel
theorem dX7_partsBehind_109 : decode cX7_partsBehind 109 = .ok (.iload_n 1, 1) := by decide +kernel
theorem dX7_partsBehind_110 : decode cX7_partsBehind 110 = .ok (.goto 4, 3) := by decide +kernel
theorem dX7_partsBehind_113 : decode cX7_partsBehind 113 = .ok (.iconst 0, 1) := by decide +kernel
theorem dX7_partsBehind_114 : decode cX7_partsBehind 114 = .ok (.ireturn, 1) := by decide +kernel
theorem dX7_average_0 : decode cX7_average 0 = .ok (.lconst 0, 1) := by decide +kernel
theorem dX7_average_1 : decode cX7_average 1 = .ok (.lstore_n 2, 1) := by decide +kernel
theorem dX7_average_2 : decode cX7_average 2 = .ok (.iconst 0, 1) := by decide +kernel
theorem dX7_average_3 : decode cX7_average 3 = .ok (.istore 4, 2) := by decide +kernel
theorem dX7_average_5 : decode cX7_average 5 = .ok (.iload 4, 2) := by decide +kernel
theorem dX7_average_7 : decode cX7_average 7 = .ok (.aload_n 0, 1) := by decide +kernel
theorem dX7_average_8 : decode cX7_average 8 = .ok (.getfield 25, 3) := by decide +kernel
theorem dX7_average_11 : decode cX7_average 11 = .ok (.getfield 54, 3) := by decide +kernel
theorem dX7_average_14 : decode cX7_average 14 = .ok (.if_icmp .ge 53, 3) := by decide +kernel
theorem dX7_average_17 : decode cX7_average 17 = .ok (.iload_n 1, 1) := by decide +kernel
theorem dX7_average_18 : decode cX7_average 18 = .ok (.iconst 3, 1) := by decide +kernel
theorem dX7_average_19 : decode cX7_average 19 = .ok (.if_icmp .ne 13, 3) := by decide +kernel
theorem dX7_average_22 : decode cX7_average 22 = .ok (.aload_n 0, 1) := by decide +kernel
theorem dX7_average_23 : decode cX7_average 23 = .ok (.iload 4, 2) := by decide +kernel
theorem dX7_average_25 : decode cX7_average 25 = .ok (.invokevirtual 119, 3) := by decide +kernel
theorem dX7_average_28 : decode cX7_average 28 = .ok (.i2l, 1) := by decide +kernel
theorem dX7_average_29 : decode cX7_average 29 = .ok (.goto 16, 3) := by decide +kernel
theorem dX7_average_32 : decode cX7_average 32 = .ok (.aload_n 0, 1) := by decide +kernel
theorem dX7_average_33 : decode cX7_average 33 = .ok (.getfield 25, 3) := by decide +kernel
theorem dX7_average_36 : decode cX7_average 36 = .ok (.getfield 62, 3) := by decide +kernel
theorem dX7_average_39 : decode cX7_average 39 = .ok (.iload 4, 2) := by decide +kernel
theorem dX7_average_41 : decode cX7_average 41 = .ok (.aaload, 1) := by decide +kernel
theorem dX7_average_42 : decode cX7_average 42 = .ok (.iload_n 1, 1) := by decide +kernel
theorem dX7_average_43 : decode cX7_average 43 = .ok (.iaload, 1) := by decide +kernel
theorem dX7_average_44 : decode cX7_average 44 = .ok (.i2l, 1) := by decide +kernel
theorem dX7_average_45 : decode cX7_average 45 = .ok (.lstore 5, 2) := by decide +kernel
theorem dX7_average_47 : decode cX7_average 47 = .ok (.lload_n 2, 1) := by decide +kernel
theorem dX7_average_48 : decode cX7_average 48 = .ok (.lload 5, 2) := by decide +kernel
theorem dX7_average_50 : decode cX7_average 50 = .ok (.aload_n 0, 1) := by decide +kernel
theorem dX7_average_51 : decode cX7_average 51 = .ok (.iload 4, 2) := by decide +kernel
theorem dX7_average_53 : decode cX7_average 53 = .ok (.iconst 0, 1) := by decide +kernel
theorem dX7_average_54 : decode cX7_average 54 = .ok (.invokevirtual 122, 3) := by decide +kernel
theorem dX7_average_57 : decode cX7_average 57 = .ok (.i2l, 1) := by decide +kernel
theorem dX7_average_58 : decode cX7_average 58 = .ok (.lmul, 1) := by decide +kernel
theorem dX7_average_59 : decode cX7_average 59 = .ok (.ladd, 1) := by decide +kernel
theorem dX7_average_60 : decode cX7_average 60 = .ok (.lstore_n 2, 1) := by decide +kernel
theorem dX7_average_61 : decode cX7_average 61 = .ok (.iinc 4 1, 3) := by decide +kernel
theorem dX7_average_64 : decode cX7_average 64 = .ok (.goto (-59), 3) := by decide +kernel
theorem dX7_average_67 : decode cX7_average 67 = .ok (.lload_n 2, 1) := by decide +kernel
theorem dX7_average_68 : decode cX7_average 68 = .ok (.ldc2_w 126, 3) := by decide +kernel
theorem dX7_average_71 : decode cX7_average 71 = .ok (.ldiv, 1) := by decide +kernel
theorem dX7_average_72 : decode cX7_average 72 = .ok (.l2i, 1) := by decide +kernel
theorem dX7_average_73 : decode cX7_average 73 = .ok (.ireturn, 1) := by decide +kernel
theorem dX8_init_0 : decode cX8_init 0 = .ok (.aload_n 0, 1) := by decide +kernel
theorem dX8_init_1 : decode cX8_init 1 = .ok (.invokespecial 3, 3) := by decide +kernel
theorem dX8_init_4 : decode cX8_init 4 = .ok (.aload_n 0, 1) := by decide +kernel
theorem dX8_init_5 : decode cX8_init 5 = .ok (.sipush 240, 3) := by decide +kernel
theorem dX8_init_8 : decode cX8_init 8 = .ok (.newarray .int, 2) := by decide +kernel
theorem dX8_init_10 : decode cX8_init 10 = .ok (.putfield 9, 3) := by decide +kernel
theorem dX8_init_13 : decode cX8_init 13 = .ok (.return_, 1) := by decide +kernel
theorem dX8_bytesIn_0 : decode cX8_bytesIn 0 = .ok (.iconst 0, 1) := by decide +kernel
theorem dX8_bytesIn_1 : decode cX8_bytesIn 1 = .ok (.istore_n 1, 1) := by decide +kernel
theorem dX8_bytesIn_2 : decode cX8_bytesIn 2 = .ok (.bipush 24, 2) := by decide +kernel
theorem dX8_bytesIn_4 : decode cX8_bytesIn 4 = .ok (.istore_n 2, 1) := by decide +kernel
theorem dX8_bytesIn_5 : decode cX8_bytesIn 5 = .ok (.iload_n 2, 1) := by decide +kernel
theorem dX8_bytesIn_6 : decode cX8_bytesIn 6 = .ok (.ifCond .lt 27, 3) := by decide +kernel
theorem dX8_bytesIn_9 : decode cX8_bytesIn 9 = .ok (.iload_n 1, 1) := by decide +kernel
theorem dX8_bytesIn_10 : decode cX8_bytesIn 10 = .ok (.iload_n 0, 1) := by decide +kernel
theorem dX8_bytesIn_11 : decode cX8_bytesIn 11 = .ok (.iload_n 2, 1) := by decide +kernel
theorem dX8_bytesIn_12 : decode cX8_bytesIn 12 = .ok (.iushr, 1) := by decide +kernel
theorem dX8_bytesIn_13 : decode cX8_bytesIn 13 = .ok (.sipush 255, 3) := by decide +kernel
theorem dX8_bytesIn_16 : decode cX8_bytesIn 16 = .ok (.iand, 1) := by decide +kernel
theorem dX8_bytesIn_17 : decode cX8_bytesIn 17 = .ok (.ifCond .ne 7, 3) := by decide +kernel
theorem dX8_bytesIn_20 : decode cX8_bytesIn 20 = .ok (.iconst 0, 1) := by decide +kernel
theorem dX8_bytesIn_21 : decode cX8_bytesIn 21 = .ok (.goto 4, 3) := by decide +kernel
theorem dX8_bytesIn_24 : decode cX8_bytesIn 24 = .ok (.iconst 1, 1) := by decide +kernel
theorem dX8_bytesIn_25 : decode cX8_bytesIn 25 = .ok (.iadd, 1) := by decide +kernel
theorem dX8_bytesIn_26 : decode cX8_bytesIn 26 = .ok (.istore_n 1, 1) := by decide +kernel
theorem dX8_bytesIn_27 : decode cX8_bytesIn 27 = .ok (.iinc 2 (-8), 3) := by decide +kernel
theorem dX8_bytesIn_30 : decode cX8_bytesIn 30 = .ok (.goto (-25), 3) := by decide +kernel
theorem dX8_bytesIn_33 : decode cX8_bytesIn 33 = .ok (.iload_n 1, 1) := by decide +kernel
theorem dX8_bytesIn_34 : decode cX8_bytesIn 34 = .ok (.ireturn, 1) := by decide +kernel
theorem dX8_append_0 : decode cX8_append 0 = .ok (.bipush 24, 2) := by decide +kernel
theorem dX8_append_2 : decode cX8_append 2 = .ok (.istore_n 2, 1) := by decide +kernel
theorem dX8_append_3 : decode cX8_append 3 = .ok (.iload_n 2, 1) := by decide +kernel
theorem dX8_append_4 : decode cX8_append 4 = .ok (.ifCond .lt 53, 3) := by decide +kernel
theorem dX8_append_7 : decode cX8_append 7 = .ok (.iload_n 1, 1) := by decide +kernel
theorem dX8_append_8 : decode cX8_append 8 = .ok (.iload_n 2, 1) := by decide +kernel
theorem dX8_append_9 : decode cX8_append 9 = .ok (.iushr, 1) := by decide +kernel
theorem dX8_append_10 : decode cX8_append 10 = .ok (.sipush 255, 3) := by decide +kernel
theorem dX8_append_13 : decode cX8_append 13 = .ok (.iand, 1) := by decide +kernel
theorem dX8_append_14 : decode cX8_append 14 = .ok (.istore_n 3, 1) := by decide +kernel
theorem dX8_append_15 : decode cX8_append 15 = .ok (.iload_n 3, 1) := by decide +kernel
theorem dX8_append_16 : decode cX8_append 16 = .ok (.ifCond .eq 35, 3) := by decide +kernel
theorem dX8_append_19 : decode cX8_append 19 = .ok (.aload_n 0, 1) := by decide +kernel
theorem dX8_append_20 : decode cX8_append 20 = .ok (.getfield 15, 3) := by decide +kernel
theorem dX8_append_23 : decode cX8_append 23 = .ok (.aload_n 0, 1) := by decide +kernel
theorem dX8_append_24 : decode cX8_append 24 = .ok (.getfield 9, 3) := by decide +kernel
theorem dX8_append_27 : decode cX8_append 27 = .ok (.arraylength, 1) := by decide +kernel
theorem dX8_append_28 : decode cX8_append 28 = .ok (.if_icmp .ge 23, 3) := by decide +kernel
theorem dX8_append_31 : decode cX8_append 31 = .ok (.aload_n 0, 1) := by decide +kernel
theorem dX8_append_32 : decode cX8_append 32 = .ok (.getfield 9, 3) := by decide +kernel
theorem dX8_append_35 : decode cX8_append 35 = .ok (.aload_n 0, 1) := by decide +kernel
theorem dX8_append_36 : decode cX8_append 36 = .ok (.getfield 15, 3) := by decide +kernel
theorem dX8_append_39 : decode cX8_append 39 = .ok (.iload_n 3, 1) := by decide +kernel
theorem dX8_append_40 : decode cX8_append 40 = .ok (.iastore, 1) := by decide +kernel
theorem dX8_append_41 : decode cX8_append 41 = .ok (.aload_n 0, 1) := by decide +kernel
theorem dX8_append_42 : decode cX8_append 42 = .ok (.dup, 1) := by decide +kernel
theorem dX8_append_43 : decode cX8_append 43 = .ok (.getfield 15, 3) := by decide +kernel
theorem dX8_append_46 : decode cX8_append 46 = .ok (.iconst 1, 1) := by decide +kernel
theorem dX8_append_47 : decode cX8_append 47 = .ok (.iadd, 1) := by decide +kernel
theorem dX8_append_48 : decode cX8_append 48 = .ok (.putfield 15, 3) := by decide +kernel
theorem dX8_append_51 : decode cX8_append 51 = .ok (.iinc 2 (-8), 3) := by decide +kernel
theorem dX8_append_54 : decode cX8_append 54 = .ok (.goto (-51), 3) := by decide +kernel
theorem dX8_append_57 : decode cX8_append 57 = .ok (.return_, 1) := by decide +kernel
theorem dX8_begin_0 : decode cX8_begin 0 = .ok (.aload_n 0, 1) := by decide +kernel
theorem dX8_begin_1 : decode cX8_begin 1 = .ok (.iconst 0, 1) := by decide +kernel
theorem dX8_begin_2 : decode cX8_begin 2 = .ok (.putfield 19, 3) := by decide +kernel
theorem dX8_begin_5 : decode cX8_begin 5 = .ok (.aload_n 0, 1) := by decide +kernel
theorem dX8_begin_6 : decode cX8_begin 6 = .ok (.iconst (-1), 1) := by decide +kernel
theorem dX8_begin_7 : decode cX8_begin 7 = .ok (.putfield 22, 3) := by decide +kernel
theorem dX8_begin_10 : decode cX8_begin 10 = .ok (.return_, 1) := by decide +kernel
theorem dX8_sign_0 : decode cX8_sign 0 = .ok (.aload_n 0, 1) := by decide +kernel
theorem dX8_sign_1 : decode cX8_sign 1 = .ok (.getfield 19, 3) := by decide +kernel
theorem dX8_sign_4 : decode cX8_sign 4 = .ok (.aload_n 0, 1) := by decide +kernel
theorem dX8_sign_5 : decode cX8_sign 5 = .ok (.getfield 15, 3) := by decide +kernel
theorem dX8_sign_8 : decode cX8_sign 8 = .ok (.if_icmp .ge 30, 3) := by decide +kernel
theorem dX8_sign_11 : decode cX8_sign 11 = .ok (.aload_n 0, 1) := by decide +kernel
theorem dX8_sign_12 : decode cX8_sign 12 = .ok (.getfield 9, 3) := by decide +kernel
theorem dX8_sign_15 : decode cX8_sign 15 = .ok (.aload_n 0, 1) := by decide +kernel
theorem dX8_sign_16 : decode cX8_sign 16 = .ok (.getfield 19, 3) := by decide +kernel
theorem dX8_sign_19 : decode cX8_sign 19 = .ok (.iaload, 1) := by decide +kernel
theorem dX8_sign_20 : decode cX8_sign 20 = .ok (.bipush 32, 2) := by decide +kernel
theorem dX8_sign_22 : decode cX8_sign 22 = .ok (.if_icmp .ne 16, 3) := by decide +kernel
theorem dX8_sign_25 : decode cX8_sign 25 = .ok (.aload_n 0, 1) := by decide +kernel
theorem dX8_sign_26 : decode cX8_sign 26 = .ok (.dup, 1) := by decide +kernel
theorem dX8_sign_27 : decode cX8_sign 27 = .ok (.getfield 19, 3) := by decide +kernel
theorem dX8_sign_30 : decode cX8_sign 30 = .ok (.iconst 1, 1) := by decide +kernel
theorem dX8_sign_31 : decode cX8_sign 31 = .ok (.iadd, 1) := by decide +kernel
theorem dX8_sign_32 : decode cX8_sign 32 = .ok (.putfield 19, 3) := by decide +kernel
theorem dX8_sign_35 : decode cX8_sign 35 = .ok (.goto (-35), 3) := by decide +kernel
theorem dX8_sign_38 : decode cX8_sign 38 = .ok (.aload_n 0, 1) := by decide +kernel
theorem dX8_sign_39 : decode cX8_sign 39 = .ok (.getfield 19, 3) := by decide +kernel
theorem dX8_sign_42 : decode cX8_sign 42 = .ok (.aload_n 0, 1) := by decide +kernel
theorem dX8_sign_43 : decode cX8_sign 43 = .ok (.getfield 15, 3) := by decide +kernel
theorem dX8_sign_46 : decode cX8_sign 46 = .ok (.if_icmp .ge 15, 3) := by decide +kernel
theorem dX8_sign_49 : decode cX8_sign 49 = .ok (.aload_n 0, 1) := by decide +kernel
theorem dX8_sign_50 : decode cX8_sign 50 = .ok (.getfield 9, 3) := by decide +kernel
theorem dX8_sign_53 : decode cX8_sign 53 = .ok (.aload_n 0, 1) := by decide +kernel
theorem dX8_sign_54 : decode cX8_sign 54 = .ok (.getfield 19, 3) := by decide +kernel
theorem dX8_sign_57 : decode cX8_sign 57 = .ok (.iaload, 1) := by decide +kernel
theorem dX8_sign_58 : decode cX8_sign 58 = .ok (.goto 4, 3) := by decide +kernel
theorem dX8_sign_61 : decode cX8_sign 61 = .ok (.iconst (-1), 1) := by decide +kernel
theorem dX8_sign_62 : decode cX8_sign 62 = .ok (.ireturn, 1) := by decide +kernel
theorem dX8_takes_0 : decode cX8_takes 0 = .ok (.aload_n 0, 1) := by decide +kernel
theorem dX8_takes_1 : decode cX8_takes 1 = .ok (.invokevirtual 25, 3) := by decide +kernel
theorem dX8_takes_4 : decode cX8_takes 4 = .ok (.iload_n 1, 1) := by decide +kernel
theorem dX8_takes_5 : decode cX8_takes 5 = .ok (.if_icmp .eq 5, 3) := by decide +kernel
theorem dX8_takes_8 : decode cX8_takes 8 = .ok (.iconst 0, 1) := by decide +kernel
theorem dX8_takes_9 : decode cX8_takes 9 = .ok (.ireturn, 1) := by decide +kernel
theorem dX8_takes_10 : decode cX8_takes 10 = .ok (.aload_n 0, 1) := by decide +kernel
theorem dX8_takes_11 : decode cX8_takes 11 = .ok (.dup, 1) := by decide +kernel
theorem dX8_takes_12 : decode cX8_takes 12 = .ok (.getfield 19, 3) := by decide +kernel
theorem dX8_takes_15 : decode cX8_takes 15 = .ok (.iconst 1, 1) := by decide +kernel
theorem dX8_takes_16 : decode cX8_takes 16 = .ok (.iadd, 1) := by decide +kernel
theorem dX8_takes_17 : decode cX8_takes 17 = .ok (.putfield 19, 3) := by decide +kernel
theorem dX8_takes_20 : decode cX8_takes 20 = .ok (.iconst 1, 1) := by decide +kernel
theorem dX8_takes_21 : decode cX8_takes 21 = .ok (.ireturn, 1) := by decide +kernel
theorem dX8_want_0 : decode cX8_want 0 = .ok (.aload_n 0, 1) := by decide +kernel
theorem dX8_want_1 : decode cX8_want 1 = .ok (.invokevirtual 25, 3) := by decide +kernel
theorem dX8_want_4 : decode cX8_want 4 = .ok (.iload_n 1, 1) := by decide +kernel
theorem dX8_want_5 : decode cX8_want 5 = .ok (.if_icmp .ne 16, 3) := by decide +kernel
theorem dX8_want_8 : decode cX8_want 8 = .ok (.aload_n 0, 1) := by decide +kernel
theorem dX8_want_9 : decode cX8_want 9 = .ok (.dup, 1) := by decide +kernel
theorem dX8_want_10 : decode cX8_want 10 = .ok (.getfield 19, 3) := by decide +kernel
theorem dX8_want_13 : decode cX8_want 13 = .ok (.iconst 1, 1) := by decide +kernel
theorem dX8_want_14 : decode cX8_want 14 = .ok (.iadd, 1) := by decide +kernel
theorem dX8_want_15 : decode cX8_want 15 = .ok (.putfield 19, 3) := by decide +kernel
theorem dX8_want_18 : decode cX8_want 18 = .ok (.goto 11, 3) := by decide +kernel
theorem dX8_want_21 : decode cX8_want 21 = .ok (.aload_n 0, 1) := by decide +kernel
theorem dX8_want_22 : decode cX8_want 22 = .ok (.aload_n 0, 1) := by decide +kernel
theorem dX8_want_23 : decode cX8_want 23 = .ok (.getfield 19, 3) := by decide +kernel
theorem dX8_want_26 : decode cX8_want 26 = .ok (.invokevirtual 29, 3) := by decide +kernel
theorem dX8_want_29 : decode cX8_want 29 = .ok (.return_, 1) := by decide +kernel
theorem dX8_failAt_0 : decode cX8_failAt 0 = .ok (.aload_n 0, 1) := by decide +kernel
theorem dX8_failAt_1 : decode cX8_failAt 1 = .ok (.getfield 22, 3) := by decide +kernel
theorem dX8_failAt_4 : decode cX8_failAt 4 = .ok (.iconst (-1), 1) := by decide +kernel
theorem dX8_failAt_5 : decode cX8_failAt 5 = .ok (.if_icmp .ne 8, 3) := by decide +kernel
theorem dX8_failAt_8 : decode cX8_failAt 8 = .ok (.aload_n 0, 1) := by decide +kernel
theorem dX8_failAt_9 : decode cX8_failAt 9 = .ok (.iload_n 1, 1) := by decide +kernel
theorem dX8_failAt_10 : decode cX8_failAt 10 = .ok (.putfield 22, 3) := by decide +kernel
theorem dX8_failAt_13 : decode cX8_failAt 13 = .ok (.aload_n 0, 1) := by decide +kernel
theorem dX8_failAt_14 : decode cX8_failAt 14 = .ok (.aload_n 0, 1) := by decide +kernel
theorem dX8_failAt_15 : decode cX8_failAt 15 = .ok (.getfield 15, 3) := by decide +kernel
theorem dX8_failAt_18 : decode cX8_failAt 18 = .ok (.putfield 19, 3) := by decide +kernel
theorem dX8_failAt_21 : decode cX8_failAt 21 = .ok (.return_, 1) := by decide +kernel
theorem dX8_isDigit_0 : decode cX8_isDigit 0 = .ok (.aload_n 0, 1) := by decide +kernel
theorem dX8_isDigit_1 : decode cX8_isDigit 1 = .ok (.getfield 19, 3) := by decide +kernel
theorem dX8_isDigit_4 : decode cX8_isDigit 4 = .ok (.aload_n 0, 1) := by decide +kernel
theorem dX8_isDigit_5 : decode cX8_isDigit 5 = .ok (.getfield 15, 3) := by decide +kernel
theorem dX8_isDigit_8 : decode cX8_isDigit 8 = .ok (.if_icmp .ge 35, 3) := by decide +kernel
theorem dX8_isDigit_11 : decode cX8_isDigit 11 = .ok (.aload_n 0, 1) := by decide +kernel
theorem dX8_isDigit_12 : decode cX8_isDigit 12 = .ok (.getfield 9, 3) := by decide +kernel
theorem dX8_isDigit_15 : decode cX8_isDigit 15 = .ok (.aload_n 0, 1) := by decide +kernel
theorem dX8_isDigit_16 : decode cX8_isDigit 16 = .ok (.getfield 19, 3) := by decide +kernel
theorem dX8_isDigit_19 : decode cX8_isDigit 19 = .ok (.iaload, 1) := by decide +kernel
theorem dX8_isDigit_20 : decode cX8_isDigit 20 = .ok (.bipush 48, 2) := by decide +kernel
theorem dX8_isDigit_22 : decode cX8_isDigit 22 = .ok (.if_icmp .lt 21, 3) := by decide +kernel
theorem dX8_isDigit_25 : decode cX8_isDigit 25 = .ok (.aload_n 0, 1) := by decide +kernel
theorem dX8_isDigit_26 : decode cX8_isDigit 26 = .ok (.getfield 9, 3) := by decide +kernel
theorem dX8_isDigit_29 : decode cX8_isDigit 29 = .ok (.aload_n 0, 1) := by decide +kernel
theorem dX8_isDigit_30 : decode cX8_isDigit 30 = .ok (.getfield 19, 3) := by decide +kernel
theorem dX8_isDigit_33 : decode cX8_isDigit 33 = .ok (.iaload, 1) := by decide +kernel
theorem dX8_isDigit_34 : decode cX8_isDigit 34 = .ok (.bipush 57, 2) := by decide +kernel
theorem dX8_isDigit_36 : decode cX8_isDigit 36 = .ok (.if_icmp .gt 7, 3) := by decide +kernel
theorem dX8_isDigit_39 : decode cX8_isDigit 39 = .ok (.iconst 1, 1) := by decide +kernel
theorem dX8_isDigit_40 : decode cX8_isDigit 40 = .ok (.goto 4, 3) := by decide +kernel
theorem dX8_isDigit_43 : decode cX8_isDigit 43 = .ok (.iconst 0, 1) := by decide +kernel
theorem dX8_isDigit_44 : decode cX8_isDigit 44 = .ok (.ireturn, 1) := by decide +kernel
theorem dX8_number_0 : decode cX8_number 0 = .ok (.aload_n 0, 1) := by decide +kernel
theorem dX8_number_1 : decode cX8_number 1 = .ok (.invokevirtual 25, 3) := by decide +kernel
theorem dX8_number_4 : decode cX8_number 4 = .ok (.pop, 1) := by decide +kernel
theorem dX8_number_5 : decode cX8_number 5 = .ok (.aload_n 0, 1) := by decide +kernel
theorem dX8_number_6 : decode cX8_number 6 = .ok (.invokevirtual 33, 3) := by decide +kernel
theorem dX8_number_9 : decode cX8_number 9 = .ok (.ifCond .ne 13, 3) := by decide +kernel
theorem dX8_number_12 : decode cX8_number 12 = .ok (.aload_n 0, 1) := by decide +kernel
theorem dX8_number_13 : decode cX8_number 13 = .ok (.aload_n 0, 1) := by decide +kernel
theorem dX8_number_14 : decode cX8_number 14 = .ok (.getfield 19, 3) := by decide +kernel
theorem dX8_number_17 : decode cX8_number 17 = .ok (.invokevirtual 29, 3) := by decide +kernel
theorem dX8_number_20 : decode cX8_number 20 = .ok (.iload_n 2, 1) := by decide +kernel
theorem dX8_number_21 : decode cX8_number 21 = .ok (.ireturn, 1) := by decide +kernel
theorem dX8_number_22 : decode cX8_number 22 = .ok (.iconst 0, 1) := by decide +kernel
theorem dX8_number_23 : decode cX8_number 23 = .ok (.istore 4, 2) := by decide +kernel
theorem dX8_number_25 : decode cX8_number 25 = .ok (.iconst 0, 1) := by decide +kernel
theorem dX8_number_26 : decode cX8_number 26 = .ok (.istore 5, 2) := by decide +kernel
theorem dX8_number_28 : decode cX8_number 28 = .ok (.iload 5, 2) := by decide +kernel
theorem dX8_number_30 : decode cX8_number 30 = .ok (.iload_n 1, 1) := by decide +kernel
theorem dX8_number_31 : decode cX8_number 31 = .ok (.if_icmp .ge 46, 3) := by decide +kernel
theorem dX8_number_34 : decode cX8_number 34 = .ok (.aload_n 0, 1) := by decide +kernel
theorem dX8_number_35 : decode cX8_number 35 = .ok (.invokevirtual 33, 3) := by decide +kernel
theorem dX8_number_38 : decode cX8_number 38 = .ok (.ifCond .eq 39, 3) := by decide +kernel
theorem dX8_number_41 : decode cX8_number 41 = .ok (.bipush 10, 2) := by decide +kernel
theorem dX8_number_43 : decode cX8_number 43 = .ok (.iload 4, 2) := by decide +kernel
theorem dX8_number_45 : decode cX8_number 45 = .ok (.imul, 1) := by decide +kernel
theorem dX8_number_46 : decode cX8_number 46 = .ok (.aload_n 0, 1) := by decide +kernel
theorem dX8_number_47 : decode cX8_number 47 = .ok (.getfield 9, 3) := by decide +kernel
theorem dX8_number_50 : decode cX8_number 50 = .ok (.aload_n 0, 1) := by decide +kernel
theorem dX8_number_51 : decode cX8_number 51 = .ok (.getfield 19, 3) := by decide +kernel
theorem dX8_number_54 : decode cX8_number 54 = .ok (.iaload, 1) := by decide +kernel
theorem dX8_number_55 : decode cX8_number 55 = .ok (.iadd, 1) := by decide +kernel
theorem dX8_number_56 : decode cX8_number 56 = .ok (.bipush 48, 2) := by decide +kernel
theorem dX8_number_58 : decode cX8_number 58 = .ok (.isub, 1) := by decide +kernel
theorem dX8_number_59 : decode cX8_number 59 = .ok (.istore 4, 2) := by decide +kernel
theorem dX8_number_61 : decode cX8_number 61 = .ok (.aload_n 0, 1) := by decide +kernel
theorem dX8_number_62 : decode cX8_number 62 = .ok (.dup, 1) := by decide +kernel
theorem dX8_number_63 : decode cX8_number 63 = .ok (.getfield 19, 3) := by decide +kernel
theorem dX8_number_66 : decode cX8_number 66 = .ok (.iconst 1, 1) := by decide +kernel
theorem dX8_number_67 : decode cX8_number 67 = .ok (.iadd, 1) := by decide +kernel
theorem dX8_number_68 : decode cX8_number 68 = .ok (.putfield 19, 3) := by decide +kernel
theorem dX8_number_71 : decode cX8_number 71 = .ok (.iinc 5 1, 3) := by decide +kernel
theorem dX8_number_74 : decode cX8_number 74 = .ok (.goto (-46), 3) := by decide +kernel
theorem dX8_number_77 : decode cX8_number 77 = .ok (.aload_n 0, 1) := by decide +kernel
theorem dX8_number_78 : decode cX8_number 78 = .ok (.invokevirtual 33, 3) := by decide +kernel
theorem dX8_number_81 : decode cX8_number 81 = .ok (.ifCond .eq 14, 3) := by decide +kernel
theorem dX8_number_84 : decode cX8_number 84 = .ok (.aload_n 0, 1) := by decide +kernel
theorem dX8_number_85 : decode cX8_number 85 = .ok (.aload_n 0, 1) := by decide +kernel
theorem dX8_number_86 : decode cX8_number 86 = .ok (.getfield 19, 3) := by decide +kernel
theorem dX8_number_89 : decode cX8_number 89 = .ok (.invokevirtual 29, 3) := by decide +kernel
theorem dX8_number_92 : decode cX8_number 92 = .ok (.goto 25, 3) := by decide +kernel
theorem dX8_number_95 : decode cX8_number 95 = .ok (.iload 4, 2) := by decide +kernel
theorem dX8_number_97 : decode cX8_number 97 = .ok (.iload_n 2, 1) := by decide +kernel
theorem dX8_number_98 : decode cX8_number 98 = .ok (.if_icmp .lt 9, 3) := by decide +kernel
theorem dX8_number_101 : decode cX8_number 101 = .ok (.iload 4, 2) := by decide +kernel
theorem dX8_number_103 : decode cX8_number 103 = .ok (.iload_n 3, 1) := by decide +kernel
theorem dX8_number_104 : decode cX8_number 104 = .ok (.if_icmp .le 13, 3) := by decide +kernel
theorem dX8_number_107 : decode cX8_number 107 = .ok (.aload_n 0, 1) := by decide +kernel
theorem dX8_number_108 : decode cX8_number 108 = .ok (.aload_n 0, 1) := by decide +kernel
theorem dX8_number_109 : decode cX8_number 109 = .ok (.getfield 19, 3) := by decide +kernel
theorem dX8_number_112 : decode cX8_number 112 = .ok (.iconst 1, 1) := by decide +kernel
theorem dX8_number_113 : decode cX8_number 113 = .ok (.isub, 1) := by decide +kernel
theorem dX8_number_114 : decode cX8_number 114 = .ok (.invokevirtual 29, 3) := by decide +kernel
theorem dX8_number_117 : decode cX8_number 117 = .ok (.iload 4, 2) := by decide +kernel
theorem dX8_number_119 : decode cX8_number 119 = .ok (.ireturn, 1) := by decide +kernel
theorem dX8_finish_0 : decode cX8_finish 0 = .ok (.aload_n 0, 1) := by decide +kernel
theorem dX8_finish_1 : decode cX8_finish 1 = .ok (.invokevirtual 25, 3) := by decide +kernel
theorem dX8_finish_4 : decode cX8_finish 4 = .ok (.iconst (-1), 1) := by decide +kernel
theorem dX8_finish_5 : decode cX8_finish 5 = .ok (.if_icmp .eq 11, 3) := by decide +kernel
theorem dX8_finish_8 : decode cX8_finish 8 = .ok (.aload_n 0, 1) := by decide +kernel
theorem dX8_finish_9 : decode cX8_finish 9 = .ok (.aload_n 0, 1) := by decide +kernel
theorem dX8_finish_10 : decode cX8_finish 10 = .ok (.getfield 19, 3) := by decide +kernel
theorem dX8_finish_13 : decode cX8_finish 13 = .ok (.invokevirtual 29, 3) := by decide +kernel
theorem dX8_finish_16 : decode cX8_finish 16 = .ok (.aload_n 0, 1) := by decide +kernel
theorem dX8_finish_17 : decode cX8_finish 17 = .ok (.getfield 22, 3) := by decide +kernel
theorem dX8_finish_20 : decode cX8_finish 20 = .ok (.ireturn, 1) := by decide +kernel
theorem dX9_init_0 : decode cX9_init 0 = .ok (.aload_n 0, 1) := by decide +kernel
theorem dX9_init_1 : decode cX9_init 1 = .ok (.invokespecial 1, 3) := by decide +kernel
theorem dX9_init_4 : decode cX9_init 4 = .ok (.aload_n 0, 1) := by decide +kernel
theorem dX9_init_5 : decode cX9_init 5 = .ok (.sipush 256, 3) := by decide +kernel
theorem dX9_init_8 : decode cX9_init 8 = .ok (.newarray .int, 2) := by decide +kernel
theorem dX9_init_10 : decode cX9_init 10 = .ok (.putfield 9, 3) := by decide +kernel
theorem dX9_init_13 : decode cX9_init 13 = .ok (.aload_n 0, 1) := by decide +kernel
theorem dX9_init_14 : decode cX9_init 14 = .ok (.bipush 64, 2) := by decide +kernel
theorem dX9_init_16 : decode cX9_init 16 = .ok (.newarray .int, 2) := by decide +kernel
theorem dX9_init_18 : decode cX9_init 18 = .ok (.putfield 13, 3) := by decide +kernel
theorem dX9_init_21 : decode cX9_init 21 = .ok (.return_, 1) := by decide +kernel
theorem dX9_put_0 : decode cX9_put 0 = .ok (.aload_n 0, 1) := by decide +kernel
theorem dX9_put_1 : decode cX9_put 1 = .ok (.getfield 16, 3) := by decide +kernel
theorem dX9_put_4 : decode cX9_put 4 = .ok (.sipush 256, 3) := by decide +kernel
theorem dX9_put_7 : decode cX9_put 7 = .ok (.if_icmp .ge 23, 3) := by decide +kernel
theorem dX9_put_10 : decode cX9_put 10 = .ok (.aload_n 0, 1) := by decide +kernel
theorem dX9_put_11 : decode cX9_put 11 = .ok (.getfield 9, 3) := by decide +kernel
theorem dX9_put_14 : decode cX9_put 14 = .ok (.aload_n 0, 1) := by decide +kernel
theorem dX9_put_15 : decode cX9_put 15 = .ok (.getfield 16, 3) := by decide +kernel
theorem dX9_put_18 : decode cX9_put 18 = .ok (.iload_n 1, 1) := by decide +kernel
theorem dX9_put_19 : decode cX9_put 19 = .ok (.iastore, 1) := by decide +kernel
theorem dX9_put_20 : decode cX9_put 20 = .ok (.aload_n 0, 1) := by decide +kernel
theorem dX9_put_21 : decode cX9_put 21 = .ok (.dup, 1) := by decide +kernel
theorem dX9_put_22 : decode cX9_put 22 = .ok (.getfield 16, 3) := by decide +kernel
theorem dX9_put_25 : decode cX9_put 25 = .ok (.iconst 1, 1) := by decide +kernel
theorem dX9_put_26 : decode cX9_put 26 = .ok (.iadd, 1) := by decide +kernel
theorem dX9_put_27 : decode cX9_put 27 = .ok (.putfield 16, 3) := by decide +kernel
theorem dX9_put_30 : decode cX9_put 30 = .ok (.return_, 1) := by decide +kernel
theorem dX9_reckon_0 : decode cX9_reckon 0 = .ok (.iconst 0, 1) := by decide +kernel
theorem dX9_reckon_1 : decode cX9_reckon 1 = .ok (.istore_n 2, 1) := by decide +kernel
theorem dX9_reckon_2 : decode cX9_reckon 2 = .ok (.iconst 0, 1) := by decide +kernel
theorem dX9_reckon_3 : decode cX9_reckon 3 = .ok (.istore_n 3, 1) := by decide +kernel
theorem dX9_reckon_4 : decode cX9_reckon 4 = .ok (.iconst 0, 1) := by decide +kernel
theorem dX9_reckon_5 : decode cX9_reckon 5 = .ok (.istore 4, 2) := by decide +kernel
theorem dX9_reckon_7 : decode cX9_reckon 7 = .ok (.iload 4, 2) := by decide +kernel
theorem dX9_reckon_9 : decode cX9_reckon 9 = .ok (.aload_n 0, 1) := by decide +kernel
theorem dX9_reckon_10 : decode cX9_reckon 10 = .ok (.getfield 16, 3) := by decide +kernel
theorem dX9_reckon_13 : decode cX9_reckon 13 = .ok (.if_icmp .ge 200, 3) := by decide +kernel
theorem dX9_reckon_16 : decode cX9_reckon 16 = .ok (.aload_n 0, 1) := by decide +kernel
theorem dX9_reckon_17 : decode cX9_reckon 17 = .ok (.getfield 9, 3) := by decide +kernel
theorem dX9_reckon_20 : decode cX9_reckon 20 = .ok (.iload 4, 2) := by decide +kernel
theorem dX9_reckon_22 : decode cX9_reckon 22 = .ok (.iaload, 1) := by decide +kernel
theorem dX9_reckon_23 : decode cX9_reckon 23 = .ok (.istore 5, 2) := by decide +kernel
theorem dX9_reckon_25 : decode cX9_reckon 25 = .ok (.iload_n 3, 1) := by decide +kernel
theorem dX9_reckon_26 : decode cX9_reckon 26 = .ok (.ifCond .eq 19, 3) := by decide +kernel
theorem dX9_reckon_29 : decode cX9_reckon 29 = .ok (.iload 5, 2) := by decide +kernel
theorem dX9_reckon_31 : decode cX9_reckon 31 = .ok (.bipush (-59), 2) := by decide +kernel
theorem dX9_reckon_33 : decode cX9_reckon 33 = .ok (.if_icmp .eq 7, 3) := by decide +kernel
theorem dX9_reckon_36 : decode cX9_reckon 36 = .ok (.iconst 1, 1) := by decide +kernel
theorem dX9_reckon_37 : decode cX9_reckon 37 = .ok (.goto 4, 3) := by decide +kernel
theorem dX9_reckon_40 : decode cX9_reckon 40 = .ok (.iconst 0, 1) := by decide +kernel
theorem dX9_reckon_41 : decode cX9_reckon 41 = .ok (.istore_n 3, 1) := by decide +kernel
theorem dX9_reckon_42 : decode cX9_reckon 42 = .ok (.goto 165, 3) := by decide +kernel
theorem dX9_reckon_45 : decode cX9_reckon 45 = .ok (.iload 5, 2) := by decide +kernel
theorem dX9_reckon_47 : decode cX9_reckon 47 = .ok (.ifCond .lt 44, 3) := by decide +kernel
theorem dX9_reckon_50 : decode cX9_reckon 50 = .ok (.iload_n 2, 1) := by decide +kernel
theorem dX9_reckon_51 : decode cX9_reckon 51 = .ok (.bipush 64, 2) := by decide +kernel
theorem dX9_reckon_53 : decode cX9_reckon 53 = .ok (.if_icmp .ge 154, 3) := by decide +kernel
theorem dX9_reckon_56 : decode cX9_reckon 56 = .ok (.aload_n 0, 1) := by decide +kernel
theorem dX9_reckon_57 : decode cX9_reckon 57 = .ok (.getfield 13, 3) := by decide +kernel
theorem dX9_reckon_60 : decode cX9_reckon 60 = .ok (.iload_n 2, 1) := by decide +kernel
theorem dX9_reckon_61 : decode cX9_reckon 61 = .ok (.iload 5, 2) := by decide +kernel
theorem dX9_reckon_63 : decode cX9_reckon 63 = .ok (.sipush 10000, 3) := by decide +kernel
theorem dX9_reckon_66 : decode cX9_reckon 66 = .ok (.if_icmp .ge 8, 3) := by decide +kernel
theorem dX9_reckon_69 : decode cX9_reckon 69 = .ok (.iload 5, 2) := by decide +kernel
theorem dX9_reckon_71 : decode cX9_reckon 71 = .ok (.goto 13, 3) := by decide +kernel
theorem dX9_reckon_74 : decode cX9_reckon 74 = .ok (.aload_n 1, 1) := by decide +kernel
theorem dX9_reckon_75 : decode cX9_reckon 75 = .ok (.iload 5, 2) := by decide +kernel
theorem dX9_reckon_77 : decode cX9_reckon 77 = .ok (.sipush 10000, 3) := by decide +kernel
theorem dX9_reckon_80 : decode cX9_reckon 80 = .ok (.isub, 1) := by decide +kernel
theorem dX9_reckon_81 : decode cX9_reckon 81 = .ok (.invokestatic 20, 3) := by decide +kernel
theorem dX9_reckon_84 : decode cX9_reckon 84 = .ok (.iastore, 1) := by decide +kernel
theorem dX9_reckon_85 : decode cX9_reckon 85 = .ok (.iinc 2 1, 3) := by decide +kernel
theorem dX9_reckon_88 : decode cX9_reckon 88 = .ok (.goto 119, 3) := by decide +kernel
theorem dX9_reckon_91 : decode cX9_reckon 91 = .ok (.iload_n 2, 1) := by decide +kernel
theorem dX9_reckon_92 : decode cX9_reckon 92 = .ok (.ifCond .ne 5, 3) := by decide +kernel
theorem dX9_reckon_95 : decode cX9_reckon 95 = .ok (.iconst 0, 1) := by decide +kernel
theorem dX9_reckon_96 : decode cX9_reckon 96 = .ok (.ireturn, 1) := by decide +kernel
theorem dX9_reckon_97 : decode cX9_reckon 97 = .ok (.iload 5, 2) := by decide +kernel
theorem dX9_reckon_99 : decode cX9_reckon 99 = .ok (.bipush (-59), 2) := by decide +kernel
theorem dX9_reckon_101 : decode cX9_reckon 101 = .ok (.if_icmp .ne 12, 3) := by decide +kernel
theorem dX9_reckon_104 : decode cX9_reckon 104 = .ok (.aload_n 0, 1) := by decide +kernel
theorem dX9_reckon_105 : decode cX9_reckon 105 = .ok (.getfield 13, 3) := by decide +kernel
theorem dX9_reckon_108 : decode cX9_reckon 108 = .ok (.iload_n 2, 1) := by decide +kernel
theorem dX9_reckon_109 : decode cX9_reckon 109 = .ok (.iconst 1, 1) := by decide +kernel
theorem dX9_reckon_110 : decode cX9_reckon 110 = .ok (.isub, 1) := by decide +kernel
theorem dX9_reckon_111 : decode cX9_reckon 111 = .ok (.iaload, 1) := by decide +kernel
theorem dX9_reckon_112 : decode cX9_reckon 112 = .ok (.ireturn, 1) := by decide +kernel
theorem dX9_reckon_113 : decode cX9_reckon 113 = .ok (.iload 5, 2) := by decide +kernel
theorem dX9_reckon_115 : decode cX9_reckon 115 = .ok (.bipush (-63), 2) := by decide +kernel
theorem dX9_reckon_117 : decode cX9_reckon 117 = .ok (.if_icmp .ne 24, 3) := by decide +kernel
theorem dX9_reckon_120 : decode cX9_reckon 120 = .ok (.iinc 2 (-1), 3) := by decide +kernel
theorem dX9_reckon_123 : decode cX9_reckon 123 = .ok (.aload_n 0, 1) := by decide +kernel
theorem dX9_reckon_124 : decode cX9_reckon 124 = .ok (.getfield 13, 3) := by decide +kernel
theorem dX9_reckon_127 : decode cX9_reckon 127 = .ok (.iload_n 2, 1) := by decide +kernel
theorem dX9_reckon_128 : decode cX9_reckon 128 = .ok (.iaload, 1) := by decide +kernel
theorem dX9_reckon_129 : decode cX9_reckon 129 = .ok (.ifCond .ne 7, 3) := by decide +kernel
theorem dX9_reckon_132 : decode cX9_reckon 132 = .ok (.iconst 1, 1) := by decide +kernel
theorem dX9_reckon_133 : decode cX9_reckon 133 = .ok (.goto 4, 3) := by decide +kernel
theorem dX9_reckon_136 : decode cX9_reckon 136 = .ok (.iconst 0, 1) := by decide +kernel
theorem dX9_reckon_137 : decode cX9_reckon 137 = .ok (.istore_n 3, 1) := by decide +kernel
theorem dX9_reckon_138 : decode cX9_reckon 138 = .ok (.goto 69, 3) := by decide +kernel
theorem dX9_reckon_141 : decode cX9_reckon 141 = .ok (.iload 5, 2) := by decide +kernel
theorem dX9_reckon_143 : decode cX9_reckon 143 = .ok (.bipush (-33), 2) := by decide +kernel
theorem dX9_reckon_145 : decode cX9_reckon 145 = .ok (.if_icmp .ne 24, 3) := by decide +kernel
theorem dX9_reckon_148 : decode cX9_reckon 148 = .ok (.aload_n 0, 1) := by decide +kernel
theorem dX9_reckon_149 : decode cX9_reckon 149 = .ok (.getfield 13, 3) := by decide +kernel
theorem dX9_reckon_152 : decode cX9_reckon 152 = .ok (.iload_n 2, 1) := by decide +kernel
theorem dX9_reckon_153 : decode cX9_reckon 153 = .ok (.iconst 1, 1) := by decide +kernel
theorem dX9_reckon_154 : decode cX9_reckon 154 = .ok (.isub, 1) := by decide +kernel
theorem dX9_reckon_155 : decode cX9_reckon 155 = .ok (.iconst 1, 1) := by decide +kernel
theorem dX9_reckon_156 : decode cX9_reckon 156 = .ok (.aload_n 0, 1) := by decide +kernel
theorem dX9_reckon_157 : decode cX9_reckon 157 = .ok (.getfield 13, 3) := by decide +kernel
theorem dX9_reckon_160 : decode cX9_reckon 160 = .ok (.iload_n 2, 1) := by decide +kernel
theorem dX9_reckon_161 : decode cX9_reckon 161 = .ok (.iconst 1, 1) := by decide +kernel
theorem dX9_reckon_162 : decode cX9_reckon 162 = .ok (.isub, 1) := by decide +kernel
theorem dX9_reckon_163 : decode cX9_reckon 163 = .ok (.iaload, 1) := by decide +kernel
theorem dX9_reckon_164 : decode cX9_reckon 164 = .ok (.isub, 1) := by decide +kernel
theorem dX9_reckon_165 : decode cX9_reckon 165 = .ok (.iastore, 1) := by decide +kernel
theorem dX9_reckon_166 : decode cX9_reckon 166 = .ok (.goto 41, 3) := by decide +kernel
theorem dX9_reckon_169 : decode cX9_reckon 169 = .ok (.iload_n 2, 1) := by decide +kernel
theorem dX9_reckon_170 : decode cX9_reckon 170 = .ok (.iconst 1, 1) := by decide +kernel
theorem dX9_reckon_171 : decode cX9_reckon 171 = .ok (.if_icmp .le 36, 3) := by decide +kernel
theorem dX9_reckon_174 : decode cX9_reckon 174 = .ok (.iinc 2 (-1), 3) := by decide +kernel
theorem dX9_reckon_177 : decode cX9_reckon 177 = .ok (.aload_n 0, 1) := by decide +kernel
theorem dX9_reckon_178 : decode cX9_reckon 178 = .ok (.getfield 13, 3) := by decide +kernel
theorem dX9_reckon_181 : decode cX9_reckon 181 = .ok (.iload_n 2, 1) := by decide +kernel
theorem dX9_reckon_182 : decode cX9_reckon 182 = .ok (.iconst 1, 1) := by decide +kernel
theorem dX9_reckon_183 : decode cX9_reckon 183 = .ok (.isub, 1) := by decide +kernel
theorem dX9_reckon_184 : decode cX9_reckon 184 = .ok (.iload 5, 2) := by decide +kernel
theorem dX9_reckon_186 : decode cX9_reckon 186 = .ok (.ineg, 1) := by decide +kernel
theorem dX9_reckon_187 : decode cX9_reckon 187 = .ok (.aload_n 0, 1) := by decide +kernel
theorem dX9_reckon_188 : decode cX9_reckon 188 = .ok (.getfield 13, 3) := by decide +kernel
theorem dX9_reckon_191 : decode cX9_reckon 191 = .ok (.iload_n 2, 1) := by decide +kernel
theorem dX9_reckon_192 : decode cX9_reckon 192 = .ok (.iconst 1, 1) := by decide +kernel
theorem dX9_reckon_193 : decode cX9_reckon 193 = .ok (.isub, 1) := by decide +kernel
theorem dX9_reckon_194 : decode cX9_reckon 194 = .ok (.iaload, 1) := by decide +kernel
theorem dX9_reckon_195 : decode cX9_reckon 195 = .ok (.i2l, 1) := by decide +kernel
theorem dX9_reckon_196 : decode cX9_reckon 196 = .ok (.aload_n 0, 1) := by decide +kernel
theorem dX9_reckon_197 : decode cX9_reckon 197 = .ok (.getfield 13, 3) := by decide +kernel
theorem dX9_reckon_200 : decode cX9_reckon 200 = .ok (.iload_n 2, 1) := by decide +kernel
theorem dX9_reckon_201 : decode cX9_reckon 201 = .ok (.iaload, 1) := by decide +kernel
theorem dX9_reckon_202 : decode cX9_reckon 202 = .ok (.i2l, 1) := by decide +kernel
theorem dX9_reckon_203 : decode cX9_reckon 203 = .ok (.invokestatic 24, 3) := by decide +kernel
theorem dX9_reckon_206 : decode cX9_reckon 206 = .ok (.iastore, 1) := by decide +kernel
theorem dX9_reckon_207 : decode cX9_reckon 207 = .ok (.iinc 4 1, 3) := by decide +kernel
theorem dX9_reckon_210 : decode cX9_reckon 210 = .ok (.goto (-203), 3) := by decide +kernel
theorem dX9_reckon_213 : decode cX9_reckon 213 = .ok (.iconst 0, 1) := by decide +kernel
theorem dX9_reckon_214 : decode cX9_reckon 214 = .ok (.ireturn, 1) := by decide +kernel
theorem dX9_letterAt_0 : decode cX9_letterAt 0 = .ok (.iload_n 1, 1) := by decide +kernel
theorem dX9_letterAt_1 : decode cX9_letterAt 1 = .ok (.aload_n 0, 1) := by decide +kernel
theorem dX9_letterAt_2 : decode cX9_letterAt 2 = .ok (.arraylength, 1) := by decide +kernel
theorem dX9_letterAt_3 : decode cX9_letterAt 3 = .ok (.if_icmp .ge 9, 3) := by decide +kernel
theorem dX9_letterAt_6 : decode cX9_letterAt 6 = .ok (.aload_n 0, 1) := by decide +kernel
theorem dX9_letterAt_7 : decode cX9_letterAt 7 = .ok (.iload_n 1, 1) := by decide +kernel
theorem dX9_letterAt_8 : decode cX9_letterAt 8 = .ok (.iaload, 1) := by decide +kernel
theorem dX9_letterAt_9 : decode cX9_letterAt 9 = .ok (.goto 4, 3) := by decide +kernel
theorem dX9_letterAt_12 : decode cX9_letterAt 12 = .ok (.iconst 0, 1) := by decide +kernel
theorem dX9_letterAt_13 : decode cX9_letterAt 13 = .ok (.ireturn, 1) := by decide +kernel
theorem dX9_joined_0 : decode cX9_joined 0 = .ok (.iload_n 0, 1) := by decide +kernel
theorem dX9_joined_1 : decode cX9_joined 1 = .ok (.tableswitch 213 38 62 #[205, 213, 213, 213, 131, 115, 213, 123, 213, 139, 213, 213, 213, 213, 213, 213, 213, 213, 213, 213, 213, 213, 173, 157, 189], 115) := by decide +kernel
theorem dX9_joined_116 : decode cX9_joined 116 = .ok (.lload_n 1, 1) := by decide +kernel
theorem dX9_joined_117 : decode cX9_joined 117 = .ok (.lload_n 3, 1) := by decide +kernel
theorem dX9_joined_118 : decode cX9_joined 118 = .ok (.ladd, 1) := by decide +kernel
theorem dX9_joined_119 : decode cX9_joined 119 = .ok (.lstore 5, 2) := by decide +kernel
theorem dX9_joined_121 : decode cX9_joined 121 = .ok (.goto 98, 3) := by decide +kernel
theorem dX9_joined_124 : decode cX9_joined 124 = .ok (.lload_n 1, 1) := by decide +kernel
theorem dX9_joined_125 : decode cX9_joined 125 = .ok (.lload_n 3, 1) := by decide +kernel
theorem dX9_joined_126 : decode cX9_joined 126 = .ok (.lsub, 1) := by decide +kernel
theorem dX9_joined_127 : decode cX9_joined 127 = .ok (.lstore 5, 2) := by decide +kernel
theorem dX9_joined_129 : decode cX9_joined 129 = .ok (.goto 90, 3) := by decide +kernel
theorem dX9_joined_132 : decode cX9_joined 132 = .ok (.lload_n 1, 1) := by decide +kernel
theorem dX9_joined_133 : decode cX9_joined 133 = .ok (.lload_n 3, 1) := by decide +kernel
theorem dX9_joined_134 : decode cX9_joined 134 = .ok (.lmul, 1) := by decide +kernel
theorem dX9_joined_135 : decode cX9_joined 135 = .ok (.lstore 5, 2) := by decide +kernel
theorem dX9_joined_137 : decode cX9_joined 137 = .ok (.goto 82, 3) := by decide +kernel
theorem dX9_joined_140 : decode cX9_joined 140 = .ok (.lload_n 3, 1) := by decide +kernel
theorem dX9_joined_141 : decode cX9_joined 141 = .ok (.lconst 0, 1) := by decide +kernel
theorem dX9_joined_142 : decode cX9_joined 142 = .ok (.lcmp, 1) := by decide +kernel
theorem dX9_joined_143 : decode cX9_joined 143 = .ok (.ifCond .ne 7, 3) := by decide +kernel
theorem dX9_joined_146 : decode cX9_joined 146 = .ok (.lconst 0, 1) := by decide +kernel
theorem dX9_joined_147 : decode cX9_joined 147 = .ok (.goto 6, 3) := by decide +kernel
theorem dX9_joined_150 : decode cX9_joined 150 = .ok (.lload_n 1, 1) := by decide +kernel
theorem dX9_joined_151 : decode cX9_joined 151 = .ok (.lload_n 3, 1) := by decide +kernel
theorem dX9_joined_152 : decode cX9_joined 152 = .ok (.ldiv, 1) := by decide +kernel
theorem dX9_joined_153 : decode cX9_joined 153 = .ok (.lstore 5, 2) := by decide +kernel
theorem dX9_joined_155 : decode cX9_joined 155 = .ok (.goto 64, 3) := by decide +kernel
theorem dX9_joined_158 : decode cX9_joined 158 = .ok (.lload_n 1, 1) := by decide +kernel
theorem dX9_joined_159 : decode cX9_joined 159 = .ok (.lload_n 3, 1) := by decide +kernel
theorem dX9_joined_160 : decode cX9_joined 160 = .ok (.lcmp, 1) := by decide +kernel
theorem dX9_joined_161 : decode cX9_joined 161 = .ok (.ifCond .ne 7, 3) := by decide +kernel
theorem dX9_joined_164 : decode cX9_joined 164 = .ok (.lconst 1, 1) := by decide +kernel
theorem dX9_joined_165 : decode cX9_joined 165 = .ok (.goto 4, 3) := by decide +kernel
theorem dX9_joined_168 : decode cX9_joined 168 = .ok (.lconst 0, 1) := by decide +kernel
theorem dX9_joined_169 : decode cX9_joined 169 = .ok (.lstore 5, 2) := by decide +kernel
theorem dX9_joined_171 : decode cX9_joined 171 = .ok (.goto 48, 3) := by decide +kernel
theorem dX9_joined_174 : decode cX9_joined 174 = .ok (.lload_n 1, 1) := by decide +kernel
theorem dX9_joined_175 : decode cX9_joined 175 = .ok (.lload_n 3, 1) := by decide +kernel
theorem dX9_joined_176 : decode cX9_joined 176 = .ok (.lcmp, 1) := by decide +kernel
theorem dX9_joined_177 : decode cX9_joined 177 = .ok (.ifCond .ge 7, 3) := by decide +kernel
theorem dX9_joined_180 : decode cX9_joined 180 = .ok (.lconst 1, 1) := by decide +kernel
theorem dX9_joined_181 : decode cX9_joined 181 = .ok (.goto 4, 3) := by decide +kernel
theorem dX9_joined_184 : decode cX9_joined 184 = .ok (.lconst 0, 1) := by decide +kernel
theorem dX9_joined_185 : decode cX9_joined 185 = .ok (.lstore 5, 2) := by decide +kernel
theorem dX9_joined_187 : decode cX9_joined 187 = .ok (.goto 32, 3) := by decide +kernel
theorem dX9_joined_190 : decode cX9_joined 190 = .ok (.lload_n 1, 1) := by decide +kernel
theorem dX9_joined_191 : decode cX9_joined 191 = .ok (.lload_n 3, 1) := by decide +kernel
theorem dX9_joined_192 : decode cX9_joined 192 = .ok (.lcmp, 1) := by decide +kernel
theorem dX9_joined_193 : decode cX9_joined 193 = .ok (.ifCond .le 7, 3) := by decide +kernel
theorem dX9_joined_196 : decode cX9_joined 196 = .ok (.lconst 1, 1) := by decide +kernel
theorem dX9_joined_197 : decode cX9_joined 197 = .ok (.goto 4, 3) := by decide +kernel
theorem dX9_joined_200 : decode cX9_joined 200 = .ok (.lconst 0, 1) := by decide +kernel
theorem dX9_joined_201 : decode cX9_joined 201 = .ok (.lstore 5, 2) := by decide +kernel
theorem dX9_joined_203 : decode cX9_joined 203 = .ok (.goto 16, 3) := by decide +kernel
theorem dX9_joined_206 : decode cX9_joined 206 = .ok (.lload_n 1, 1) := by decide +kernel
theorem dX9_joined_207 : decode cX9_joined 207 = .ok (.lload_n 3, 1) := by decide +kernel
theorem dX9_joined_208 : decode cX9_joined 208 = .ok (.land, 1) := by decide +kernel
theorem dX9_joined_209 : decode cX9_joined 209 = .ok (.lstore 5, 2) := by decide +kernel
theorem dX9_joined_211 : decode cX9_joined 211 = .ok (.goto 8, 3) := by decide +kernel
theorem dX9_joined_214 : decode cX9_joined 214 = .ok (.lload_n 1, 1) := by decide +kernel
theorem dX9_joined_215 : decode cX9_joined 215 = .ok (.lload_n 3, 1) := by decide +kernel
theorem dX9_joined_216 : decode cX9_joined 216 = .ok (.lor, 1) := by decide +kernel
theorem dX9_joined_217 : decode cX9_joined 217 = .ok (.lstore 5, 2) := by decide +kernel
theorem dX9_joined_219 : decode cX9_joined 219 = .ok (.lload 5, 2) := by decide +kernel
theorem dX9_joined_221 : decode cX9_joined 221 = .ok (.ldc2_w 28, 3) := by decide +kernel
theorem dX9_joined_224 : decode cX9_joined 224 = .ok (.lcmp, 1) := by decide +kernel
theorem dX9_joined_225 : decode cX9_joined 225 = .ok (.ifCond .le 6, 3) := by decide +kernel
theorem dX9_joined_228 : decode cX9_joined 228 = .ok (.ldc 30, 2) := by decide +kernel
theorem dX9_joined_230 : decode cX9_joined 230 = .ok (.ireturn, 1) := by decide +kernel
theorem dX9_joined_231 : decode cX9_joined 231 = .ok (.lload 5, 2) := by decide +kernel
theorem dX9_joined_233 : decode cX9_joined 233 = .ok (.ldc2_w 31, 3) := by decide +kernel
theorem dX9_joined_236 : decode cX9_joined 236 = .ok (.lcmp, 1) := by decide +kernel
theorem dX9_joined_237 : decode cX9_joined 237 = .ok (.ifCond .ge 8, 3) := by decide +kernel
theorem dX9_joined_240 : decode cX9_joined 240 = .ok (.ldc 33, 2) := by decide +kernel
theorem dX9_joined_242 : decode cX9_joined 242 = .ok (.goto 6, 3) := by decide +kernel
theorem dX9_joined_245 : decode cX9_joined 245 = .ok (.lload 5, 2) := by decide +kernel
theorem dX9_joined_247 : decode cX9_joined 247 = .ok (.l2i, 1) := by decide +kernel
theorem dX9_joined_248 : decode cX9_joined 248 = .ok (.ireturn, 1) := by decide +kernel
theorem dX10_init_0 : decode cX10_init 0 = .ok (.aload_n 0, 1) := by decide +kernel
theorem dX10_init_1 : decode cX10_init 1 = .ok (.invokespecial 3, 3) := by decide +kernel
theorem dX10_init_4 : decode cX10_init 4 = .ok (.aload_n 0, 1) := by decide +kernel
theorem dX10_init_5 : decode cX10_init 5 = .ok (.aload_n 1, 1) := by decide +kernel
theorem dX10_init_6 : decode cX10_init 6 = .ok (.putfield 9, 3) := by decide +kernel
theorem dX10_init_9 : decode cX10_init 9 = .ok (.return_, 1) := by decide +kernel
theorem dX10_read_0 : decode cX10_read 0 = .ok (.aload_n 1, 1) := by decide +kernel
theorem dX10_read_1 : decode cX10_read 1 = .ok (.iconst 0, 1) := by decide +kernel
theorem dX10_read_2 : decode cX10_read 2 = .ok (.putfield 15, 3) := by decide +kernel
theorem dX10_read_5 : decode cX10_read 5 = .ok (.aload_n 0, 1) := by decide +kernel
theorem dX10_read_6 : decode cX10_read 6 = .ok (.getfield 9, 3) := by decide +kernel
theorem dX10_read_9 : decode cX10_read 9 = .ok (.invokevirtual 21, 3) := by decide +kernel
theorem dX10_read_12 : decode cX10_read 12 = .ok (.iconst 0, 1) := by decide +kernel
theorem dX10_read_13 : decode cX10_read 13 = .ok (.istore_n 2, 1) := by decide +kernel
theorem dX10_read_14 : decode cX10_read 14 = .ok (.iload_n 2, 1) := by decide +kernel
theorem dX10_read_15 : decode cX10_read 15 = .ok (.sipush 240, 3) := by decide +kernel
theorem dX10_read_18 : decode cX10_read 18 = .ok (.if_icmp .ge 29, 3) := by decide +kernel
theorem dX10_read_21 : decode cX10_read 21 = .ok (.aload_n 0, 1) := by decide +kernel
theorem dX10_read_22 : decode cX10_read 22 = .ok (.aload_n 1, 1) := by decide +kernel
theorem dX10_read_23 : decode cX10_read 23 = .ok (.invokevirtual 26, 3) := by decide +kernel
theorem dX10_read_26 : decode cX10_read 26 = .ok (.aload_n 0, 1) := by decide +kernel
theorem dX10_read_27 : decode cX10_read 27 = .ok (.getfield 9, 3) := by decide +kernel
theorem dX10_read_30 : decode cX10_read 30 = .ok (.bipush 59, 2) := by decide +kernel
theorem dX10_read_32 : decode cX10_read 32 = .ok (.invokevirtual 30, 3) := by decide +kernel
theorem dX10_read_35 : decode cX10_read 35 = .ok (.ifCond .ne 6, 3) := by decide +kernel
theorem dX10_read_38 : decode cX10_read 38 = .ok (.goto 9, 3) := by decide +kernel
theorem dX10_read_41 : decode cX10_read 41 = .ok (.iinc 2 1, 3) := by decide +kernel
theorem dX10_read_44 : decode cX10_read 44 = .ok (.goto (-30), 3) := by decide +kernel
theorem dX10_read_47 : decode cX10_read 47 = .ok (.aload_n 0, 1) := by decide +kernel
theorem dX10_read_48 : decode cX10_read 48 = .ok (.getfield 9, 3) := by decide +kernel
theorem dX10_read_51 : decode cX10_read 51 = .ok (.invokevirtual 34, 3) := by decide +kernel
theorem dX10_read_54 : decode cX10_read 54 = .ok (.ireturn, 1) := by decide +kernel
theorem dX10_readClause_0 : decode cX10_readClause 0 = .ok (.aload_n 0, 1) := by decide +kernel
theorem dX10_readClause_1 : decode cX10_readClause 1 = .ok (.getfield 9, 3) := by decide +kernel
theorem dX10_readClause_4 : decode cX10_readClause 4 = .ok (.bipush 121, 2) := by decide +kernel
theorem dX10_readClause_6 : decode cX10_readClause 6 = .ok (.invokevirtual 38, 3) := by decide +kernel
theorem dX10_readClause_9 : decode cX10_readClause 9 = .ok (.aload_n 0, 1) := by decide +kernel
theorem dX10_readClause_10 : decode cX10_readClause 10 = .ok (.getfield 9, 3) := by decide +kernel
theorem dX10_readClause_13 : decode cX10_readClause 13 = .ok (.bipush 58, 2) := by decide +kernel
theorem dX10_readClause_15 : decode cX10_readClause 15 = .ok (.invokevirtual 38, 3) := by decide +kernel
theorem dX10_readClause_18 : decode cX10_readClause 18 = .ok (.aload_n 0, 1) := by decide +kernel
theorem dX10_readClause_19 : decode cX10_readClause 19 = .ok (.getfield 9, 3) := by decide +kernel
theorem dX10_readClause_22 : decode cX10_readClause 22 = .ok (.invokevirtual 42, 3) := by decide +kernel
theorem dX10_readClause_25 : decode cX10_readClause 25 = .ok (.istore_n 2, 1) := by decide +kernel
theorem dX10_readClause_26 : decode cX10_readClause 26 = .ok (.iload_n 2, 1) := by decide +kernel
theorem dX10_readClause_27 : decode cX10_readClause 27 = .ok (.bipush 33, 2) := by decide +kernel
theorem dX10_readClause_29 : decode cX10_readClause 29 = .ok (.if_icmp .eq 13, 3) := by decide +kernel
theorem dX10_readClause_32 : decode cX10_readClause 32 = .ok (.iload_n 2, 1) := by decide +kernel
theorem dX10_readClause_33 : decode cX10_readClause 33 = .ok (.bipush 40, 2) := by decide +kernel
theorem dX10_readClause_35 : decode cX10_readClause 35 = .ok (.if_icmp .eq 7, 3) := by decide +kernel
theorem dX10_readClause_38 : decode cX10_readClause 38 = .ok (.iconst 1, 1) := by decide +kernel
theorem dX10_readClause_39 : decode cX10_readClause 39 = .ok (.goto 4, 3) := by decide +kernel
theorem dX10_readClause_42 : decode cX10_readClause 42 = .ok (.iconst 0, 1) := by decide +kernel
theorem dX10_readClause_43 : decode cX10_readClause 43 = .ok (.istore_n 3, 1) := by decide +kernel
theorem dX10_readClause_44 : decode cX10_readClause 44 = .ok (.iload_n 3, 1) := by decide +kernel
theorem dX10_readClause_45 : decode cX10_readClause 45 = .ok (.ifCond .eq 9, 3) := by decide +kernel
theorem dX10_readClause_48 : decode cX10_readClause 48 = .ok (.aload_n 0, 1) := by decide +kernel
theorem dX10_readClause_49 : decode cX10_readClause 49 = .ok (.aload_n 1, 1) := by decide +kernel
theorem dX10_readClause_50 : decode cX10_readClause 50 = .ok (.iconst 0, 1) := by decide +kernel
theorem dX10_readClause_51 : decode cX10_readClause 51 = .ok (.invokevirtual 45, 3) := by decide +kernel
theorem dX10_readClause_54 : decode cX10_readClause 54 = .ok (.iload_n 3, 1) := by decide +kernel
theorem dX10_readClause_55 : decode cX10_readClause 55 = .ok (.ifCond .eq 16, 3) := by decide +kernel
theorem dX10_readClause_58 : decode cX10_readClause 58 = .ok (.aload_n 0, 1) := by decide +kernel
theorem dX10_readClause_59 : decode cX10_readClause 59 = .ok (.getfield 9, 3) := by decide +kernel
theorem dX10_readClause_62 : decode cX10_readClause 62 = .ok (.invokevirtual 42, 3) := by decide +kernel
theorem dX10_readClause_65 : decode cX10_readClause 65 = .ok (.invokestatic 49, 3) := by decide +kernel
theorem dX10_readClause_68 : decode cX10_readClause 68 = .ok (.ifCond .eq 31, 3) := by decide +kernel
theorem dX10_readClause_71 : decode cX10_readClause 71 = .ok (.aload_n 0, 1) := by decide +kernel
theorem dX10_readClause_72 : decode cX10_readClause 72 = .ok (.aload_n 1, 1) := by decide +kernel
theorem dX10_readClause_73 : decode cX10_readClause 73 = .ok (.iconst 0, 1) := by decide +kernel
theorem dX10_readClause_74 : decode cX10_readClause 74 = .ok (.iload_n 3, 1) := by decide +kernel
theorem dX10_readClause_75 : decode cX10_readClause 75 = .ok (.invokevirtual 52, 3) := by decide +kernel
theorem dX10_readClause_78 : decode cX10_readClause 78 = .ok (.aload_n 0, 1) := by decide +kernel
theorem dX10_readClause_79 : decode cX10_readClause 79 = .ok (.getfield 9, 3) := by decide +kernel
theorem dX10_readClause_82 : decode cX10_readClause 82 = .ok (.bipush 63, 2) := by decide +kernel
theorem dX10_readClause_84 : decode cX10_readClause 84 = .ok (.invokevirtual 38, 3) := by decide +kernel
theorem dX10_readClause_87 : decode cX10_readClause 87 = .ok (.aload_n 1, 1) := by decide +kernel
theorem dX10_readClause_88 : decode cX10_readClause 88 = .ok (.bipush (-63), 2) := by decide +kernel
theorem dX10_readClause_90 : decode cX10_readClause 90 = .ok (.invokevirtual 56, 3) := by decide +kernel
theorem dX10_readClause_93 : decode cX10_readClause 93 = .ok (.aload_n 0, 1) := by decide +kernel
theorem dX10_readClause_94 : decode cX10_readClause 94 = .ok (.aload_n 1, 1) := by decide +kernel
theorem dX10_readClause_95 : decode cX10_readClause 95 = .ok (.iconst 0, 1) := by decide +kernel
theorem dX10_readClause_96 : decode cX10_readClause 96 = .ok (.invokevirtual 45, 3) := by decide +kernel
theorem dX10_readClause_99 : decode cX10_readClause 99 = .ok (.aload_n 1, 1) := by decide +kernel
theorem dX10_readClause_100 : decode cX10_readClause 100 = .ok (.bipush (-59), 2) := by decide +kernel
theorem dX10_readClause_102 : decode cX10_readClause 102 = .ok (.invokevirtual 56, 3) := by decide +kernel
theorem dX10_readClause_105 : decode cX10_readClause 105 = .ok (.return_, 1) := by decide +kernel
theorem dX10_compares_0 : decode cX10_compares 0 = .ok (.iload_n 0, 1) := by decide +kernel
theorem dX10_compares_1 : decode cX10_compares 1 = .ok (.bipush 61, 2) := by decide +kernel
theorem dX10_compares_3 : decode cX10_compares 3 = .ok (.if_icmp .eq 15, 3) := by decide +kernel
theorem dX10_compares_6 : decode cX10_compares 6 = .ok (.iload_n 0, 1) := by decide +kernel
theorem dX10_compares_7 : decode cX10_compares 7 = .ok (.bipush 60, 2) := by decide +kernel
theorem dX10_compares_9 : decode cX10_compares 9 = .ok (.if_icmp .eq 9, 3) := by decide +kernel
theorem dX10_compares_12 : decode cX10_compares 12 = .ok (.iload_n 0, 1) := by decide +kernel
theorem dX10_compares_13 : decode cX10_compares 13 = .ok (.bipush 62, 2) := by decide +kernel
theorem dX10_compares_15 : decode cX10_compares 15 = .ok (.if_icmp .ne 7, 3) := by decide +kernel
theorem dX10_compares_18 : decode cX10_compares 18 = .ok (.iconst 1, 1) := by decide +kernel
theorem dX10_compares_19 : decode cX10_compares 19 = .ok (.goto 4, 3) := by decide +kernel
theorem dX10_compares_22 : decode cX10_compares 22 = .ok (.iconst 0, 1) := by decide +kernel
theorem dX10_compares_23 : decode cX10_compares 23 = .ok (.ireturn, 1) := by decide +kernel
theorem dX10_readCondition_0 : decode cX10_readCondition 0 = .ok (.aload_n 0, 1) := by decide +kernel
theorem dX10_readCondition_1 : decode cX10_readCondition 1 = .ok (.aload_n 1, 1) := by decide +kernel
theorem dX10_readCondition_2 : decode cX10_readCondition 2 = .ok (.iload_n 2, 1) := by decide +kernel
theorem dX10_readCondition_3 : decode cX10_readCondition 3 = .ok (.iload_n 3, 1) := by decide +kernel
theorem dX10_readCondition_4 : decode cX10_readCondition 4 = .ok (.invokevirtual 59, 3) := by decide +kernel
theorem dX10_readCondition_7 : decode cX10_readCondition 7 = .ok (.iconst 0, 1) := by decide +kernel
theorem dX10_readCondition_8 : decode cX10_readCondition 8 = .ok (.istore 4, 2) := by decide +kernel
theorem dX10_readCondition_10 : decode cX10_readCondition 10 = .ok (.iload 4, 2) := by decide +kernel
theorem dX10_readCondition_12 : decode cX10_readCondition 12 = .ok (.sipush 240, 3) := by decide +kernel
theorem dX10_readCondition_15 : decode cX10_readCondition 15 = .ok (.if_icmp .ge 34, 3) := by decide +kernel
theorem dX10_readCondition_18 : decode cX10_readCondition 18 = .ok (.aload_n 0, 1) := by decide +kernel
theorem dX10_readCondition_19 : decode cX10_readCondition 19 = .ok (.getfield 9, 3) := by decide +kernel
theorem dX10_readCondition_22 : decode cX10_readCondition 22 = .ok (.bipush 124, 2) := by decide +kernel
theorem dX10_readCondition_24 : decode cX10_readCondition 24 = .ok (.invokevirtual 30, 3) := by decide +kernel
theorem dX10_readCondition_27 : decode cX10_readCondition 27 = .ok (.ifCond .eq 22, 3) := by decide +kernel
theorem dX10_readCondition_30 : decode cX10_readCondition 30 = .ok (.aload_n 0, 1) := by decide +kernel
theorem dX10_readCondition_31 : decode cX10_readCondition 31 = .ok (.aload_n 1, 1) := by decide +kernel
theorem dX10_readCondition_32 : decode cX10_readCondition 32 = .ok (.iload_n 2, 1) := by decide +kernel
theorem dX10_readCondition_33 : decode cX10_readCondition 33 = .ok (.iconst 0, 1) := by decide +kernel
theorem dX10_readCondition_34 : decode cX10_readCondition 34 = .ok (.invokevirtual 59, 3) := by decide +kernel
theorem dX10_readCondition_37 : decode cX10_readCondition 37 = .ok (.aload_n 1, 1) := by decide +kernel
theorem dX10_readCondition_38 : decode cX10_readCondition 38 = .ok (.bipush (-124), 2) := by decide +kernel
theorem dX10_readCondition_40 : decode cX10_readCondition 40 = .ok (.invokevirtual 56, 3) := by decide +kernel
theorem dX10_readCondition_43 : decode cX10_readCondition 43 = .ok (.iinc 4 1, 3) := by decide +kernel
theorem dX10_readCondition_46 : decode cX10_readCondition 46 = .ok (.goto (-36), 3) := by decide +kernel
theorem dX10_readCondition_49 : decode cX10_readCondition 49 = .ok (.return_, 1) := by decide +kernel
theorem dX10_readTruth_0 : decode cX10_readTruth 0 = .ok (.aload_n 0, 1) := by decide +kernel
theorem dX10_readTruth_1 : decode cX10_readTruth 1 = .ok (.aload_n 1, 1) := by decide +kernel
theorem dX10_readTruth_2 : decode cX10_readTruth 2 = .ok (.iload_n 2, 1) := by decide +kernel
theorem dX10_readTruth_3 : decode cX10_readTruth 3 = .ok (.iload_n 3, 1) := by decide +kernel
theorem dX10_readTruth_4 : decode cX10_readTruth 4 = .ok (.invokevirtual 62, 3) := by decide +kernel
theorem dX10_readTruth_7 : decode cX10_readTruth 7 = .ok (.iconst 0, 1) := by decide +kernel
theorem dX10_readTruth_8 : decode cX10_readTruth 8 = .ok (.istore 4, 2) := by decide +kernel
theorem dX10_readTruth_10 : decode cX10_readTruth 10 = .ok (.iload 4, 2) := by decide +kernel
theorem dX10_readTruth_12 : decode cX10_readTruth 12 = .ok (.sipush 240, 3) := by decide +kernel
theorem dX10_readTruth_15 : decode cX10_readTruth 15 = .ok (.if_icmp .ge 34, 3) := by decide +kernel
theorem dX10_readTruth_18 : decode cX10_readTruth 18 = .ok (.aload_n 0, 1) := by decide +kernel
theorem dX10_readTruth_19 : decode cX10_readTruth 19 = .ok (.getfield 9, 3) := by decide +kernel
theorem dX10_readTruth_22 : decode cX10_readTruth 22 = .ok (.bipush 38, 2) := by decide +kernel
theorem dX10_readTruth_24 : decode cX10_readTruth 24 = .ok (.invokevirtual 30, 3) := by decide +kernel
theorem dX10_readTruth_27 : decode cX10_readTruth 27 = .ok (.ifCond .eq 22, 3) := by decide +kernel
theorem dX10_readTruth_30 : decode cX10_readTruth 30 = .ok (.aload_n 0, 1) := by decide +kernel
theorem dX10_readTruth_31 : decode cX10_readTruth 31 = .ok (.aload_n 1, 1) := by decide +kernel
theorem dX10_readTruth_32 : decode cX10_readTruth 32 = .ok (.iload_n 2, 1) := by decide +kernel
theorem dX10_readTruth_33 : decode cX10_readTruth 33 = .ok (.iconst 0, 1) := by decide +kernel
theorem dX10_readTruth_34 : decode cX10_readTruth 34 = .ok (.invokevirtual 62, 3) := by decide +kernel
theorem dX10_readTruth_37 : decode cX10_readTruth 37 = .ok (.aload_n 1, 1) := by decide +kernel
theorem dX10_readTruth_38 : decode cX10_readTruth 38 = .ok (.bipush (-38), 2) := by decide +kernel
theorem dX10_readTruth_40 : decode cX10_readTruth 40 = .ok (.invokevirtual 56, 3) := by decide +kernel
theorem dX10_readTruth_43 : decode cX10_readTruth 43 = .ok (.iinc 4 1, 3) := by decide +kernel
theorem dX10_readTruth_46 : decode cX10_readTruth 46 = .ok (.goto (-36), 3) := by decide +kernel
theorem dX10_readTruth_49 : decode cX10_readTruth 49 = .ok (.return_, 1) := by decide +kernel
theorem dX10_readUnit_0 : decode cX10_readUnit 0 = .ok (.aload_n 0, 1) := by decide +kernel
theorem dX10_readUnit_1 : decode cX10_readUnit 1 = .ok (.getfield 9, 3) := by decide +kernel
theorem dX10_readUnit_4 : decode cX10_readUnit 4 = .ok (.invokevirtual 42, 3) := by decide +kernel
theorem dX10_readUnit_7 : decode cX10_readUnit 7 = .ok (.istore 4, 2) := by decide +kernel
theorem dX10_readUnit_9 : decode cX10_readUnit 9 = .ok (.iload_n 3, 1) := by decide +kernel
theorem dX10_readUnit_10 : decode cX10_readUnit 10 = .ok (.ifCond .ne 36, 3) := by decide +kernel
theorem dX10_readUnit_13 : decode cX10_readUnit 13 = .ok (.iload 4, 2) := by decide +kernel
theorem dX10_readUnit_15 : decode cX10_readUnit 15 = .ok (.bipush 33, 2) := by decide +kernel
theorem dX10_readUnit_17 : decode cX10_readUnit 17 = .ok (.if_icmp .ne 29, 3) := by decide +kernel
theorem dX10_readUnit_20 : decode cX10_readUnit 20 = .ok (.aload_n 0, 1) := by decide +kernel
theorem dX10_readUnit_21 : decode cX10_readUnit 21 = .ok (.iload_n 2, 1) := by decide +kernel
theorem dX10_readUnit_22 : decode cX10_readUnit 22 = .ok (.invokevirtual 65, 3) := by decide +kernel
theorem dX10_readUnit_25 : decode cX10_readUnit 25 = .ok (.ifCond .eq 68, 3) := by decide +kernel
theorem dX10_readUnit_28 : decode cX10_readUnit 28 = .ok (.aload_n 0, 1) := by decide +kernel
theorem dX10_readUnit_29 : decode cX10_readUnit 29 = .ok (.aload_n 1, 1) := by decide +kernel
theorem dX10_readUnit_30 : decode cX10_readUnit 30 = .ok (.iload_n 2, 1) := by decide +kernel
theorem dX10_readUnit_31 : decode cX10_readUnit 31 = .ok (.iconst 1, 1) := by decide +kernel
theorem dX10_readUnit_32 : decode cX10_readUnit 32 = .ok (.iadd, 1) := by decide +kernel
theorem dX10_readUnit_33 : decode cX10_readUnit 33 = .ok (.iconst 0, 1) := by decide +kernel
theorem dX10_readUnit_34 : decode cX10_readUnit 34 = .ok (.invokevirtual 62, 3) := by decide +kernel
theorem dX10_readUnit_37 : decode cX10_readUnit 37 = .ok (.aload_n 1, 1) := by decide +kernel
theorem dX10_readUnit_38 : decode cX10_readUnit 38 = .ok (.bipush (-33), 2) := by decide +kernel
theorem dX10_readUnit_40 : decode cX10_readUnit 40 = .ok (.invokevirtual 56, 3) := by decide +kernel
theorem dX10_readUnit_43 : decode cX10_readUnit 43 = .ok (.goto 50, 3) := by decide +kernel
theorem dX10_readUnit_46 : decode cX10_readUnit 46 = .ok (.iload_n 3, 1) := by decide +kernel
theorem dX10_readUnit_47 : decode cX10_readUnit 47 = .ok (.ifCond .ne 39, 3) := by decide +kernel
theorem dX10_readUnit_50 : decode cX10_readUnit 50 = .ok (.iload 4, 2) := by decide +kernel
theorem dX10_readUnit_52 : decode cX10_readUnit 52 = .ok (.bipush 40, 2) := by decide +kernel
theorem dX10_readUnit_54 : decode cX10_readUnit 54 = .ok (.if_icmp .ne 32, 3) := by decide +kernel
theorem dX10_readUnit_57 : decode cX10_readUnit 57 = .ok (.aload_n 0, 1) := by decide +kernel
theorem dX10_readUnit_58 : decode cX10_readUnit 58 = .ok (.iload_n 2, 1) := by decide +kernel
theorem dX10_readUnit_59 : decode cX10_readUnit 59 = .ok (.invokevirtual 65, 3) := by decide +kernel
theorem dX10_readUnit_62 : decode cX10_readUnit 62 = .ok (.ifCond .eq 31, 3) := by decide +kernel
theorem dX10_readUnit_65 : decode cX10_readUnit 65 = .ok (.aload_n 0, 1) := by decide +kernel
theorem dX10_readUnit_66 : decode cX10_readUnit 66 = .ok (.aload_n 1, 1) := by decide +kernel
theorem dX10_readUnit_67 : decode cX10_readUnit 67 = .ok (.iload_n 2, 1) := by decide +kernel
theorem dX10_readUnit_68 : decode cX10_readUnit 68 = .ok (.iconst 1, 1) := by decide +kernel
theorem dX10_readUnit_69 : decode cX10_readUnit 69 = .ok (.iadd, 1) := by decide +kernel
theorem dX10_readUnit_70 : decode cX10_readUnit 70 = .ok (.iconst 0, 1) := by decide +kernel
theorem dX10_readUnit_71 : decode cX10_readUnit 71 = .ok (.invokevirtual 52, 3) := by decide +kernel
theorem dX10_readUnit_74 : decode cX10_readUnit 74 = .ok (.aload_n 0, 1) := by decide +kernel
theorem dX10_readUnit_75 : decode cX10_readUnit 75 = .ok (.getfield 9, 3) := by decide +kernel
theorem dX10_readUnit_78 : decode cX10_readUnit 78 = .ok (.bipush 41, 2) := by decide +kernel
theorem dX10_readUnit_80 : decode cX10_readUnit 80 = .ok (.invokevirtual 38, 3) := by decide +kernel
theorem dX10_readUnit_83 : decode cX10_readUnit 83 = .ok (.goto 10, 3) := by decide +kernel
theorem dX10_readUnit_86 : decode cX10_readUnit 86 = .ok (.aload_n 0, 1) := by decide +kernel
theorem dX10_readUnit_87 : decode cX10_readUnit 87 = .ok (.aload_n 1, 1) := by decide +kernel
theorem dX10_readUnit_88 : decode cX10_readUnit 88 = .ok (.iload_n 2, 1) := by decide +kernel
theorem dX10_readUnit_89 : decode cX10_readUnit 89 = .ok (.iload_n 3, 1) := by decide +kernel
theorem dX10_readUnit_90 : decode cX10_readUnit 90 = .ok (.invokevirtual 68, 3) := by decide +kernel
theorem dX10_readUnit_93 : decode cX10_readUnit 93 = .ok (.return_, 1) := by decide +kernel
theorem dX10_readComparison_0 : decode cX10_readComparison 0 = .ok (.iload_n 3, 1) := by decide +kernel
theorem dX10_readComparison_1 : decode cX10_readComparison 1 = .ok (.ifCond .ne 9, 3) := by decide +kernel
theorem dX10_readComparison_4 : decode cX10_readComparison 4 = .ok (.aload_n 0, 1) := by decide +kernel
theorem dX10_readComparison_5 : decode cX10_readComparison 5 = .ok (.aload_n 1, 1) := by decide +kernel
theorem dX10_readComparison_6 : decode cX10_readComparison 6 = .ok (.iload_n 2, 1) := by decide +kernel
theorem dX10_readComparison_7 : decode cX10_readComparison 7 = .ok (.invokevirtual 45, 3) := by decide +kernel
theorem dX10_readComparison_10 : decode cX10_readComparison 10 = .ok (.aload_n 0, 1) := by decide +kernel
theorem dX10_readComparison_11 : decode cX10_readComparison 11 = .ok (.getfield 9, 3) := by decide +kernel
theorem dX10_readComparison_14 : decode cX10_readComparison 14 = .ok (.invokevirtual 42, 3) := by decide +kernel
theorem dX10_readComparison_17 : decode cX10_readComparison 17 = .ok (.istore 4, 2) := by decide +kernel
theorem dX10_readComparison_19 : decode cX10_readComparison 19 = .ok (.iload 4, 2) := by decide +kernel
theorem dX10_readComparison_21 : decode cX10_readComparison 21 = .ok (.invokestatic 49, 3) := by decide +kernel
theorem dX10_readComparison_24 : decode cX10_readComparison 24 = .ok (.ifCond .ne 18, 3) := by decide +kernel
theorem dX10_readComparison_27 : decode cX10_readComparison 27 = .ok (.aload_n 0, 1) := by decide +kernel
theorem dX10_readComparison_28 : decode cX10_readComparison 28 = .ok (.getfield 9, 3) := by decide +kernel
theorem dX10_readComparison_31 : decode cX10_readComparison 31 = .ok (.aload_n 0, 1) := by decide +kernel
theorem dX10_readComparison_32 : decode cX10_readComparison 32 = .ok (.getfield 9, 3) := by decide +kernel
theorem dX10_readComparison_35 : decode cX10_readComparison 35 = .ok (.getfield 71, 3) := by decide +kernel
theorem dX10_readComparison_38 : decode cX10_readComparison 38 = .ok (.invokevirtual 74, 3) := by decide +kernel
theorem dX10_readComparison_41 : decode cX10_readComparison 41 = .ok (.return_, 1) := by decide +kernel
theorem dX10_readComparison_42 : decode cX10_readComparison 42 = .ok (.aload_n 0, 1) := by decide +kernel
theorem dX10_readComparison_43 : decode cX10_readComparison 43 = .ok (.getfield 9, 3) := by decide +kernel
theorem dX10_readComparison_46 : decode cX10_readComparison 46 = .ok (.dup, 1) := by decide +kernel
theorem dX10_readComparison_47 : decode cX10_readComparison 47 = .ok (.getfield 71, 3) := by decide +kernel
theorem dX10_readComparison_50 : decode cX10_readComparison 50 = .ok (.iconst 1, 1) := by decide +kernel
theorem dX10_readComparison_51 : decode cX10_readComparison 51 = .ok (.iadd, 1) := by decide +kernel
theorem dX10_readComparison_52 : decode cX10_readComparison 52 = .ok (.putfield 71, 3) := by decide +kernel
theorem dX10_readComparison_55 : decode cX10_readComparison 55 = .ok (.aload_n 0, 1) := by decide +kernel
theorem dX10_readComparison_56 : decode cX10_readComparison 56 = .ok (.aload_n 1, 1) := by decide +kernel
theorem dX10_readComparison_57 : decode cX10_readComparison 57 = .ok (.iload_n 2, 1) := by decide +kernel
theorem dX10_readComparison_58 : decode cX10_readComparison 58 = .ok (.invokevirtual 45, 3) := by decide +kernel
theorem dX10_readComparison_61 : decode cX10_readComparison 61 = .ok (.aload_n 1, 1) := by decide +kernel
theorem dX10_readComparison_62 : decode cX10_readComparison 62 = .ok (.iload 4, 2) := by decide +kernel
theorem dX10_readComparison_64 : decode cX10_readComparison 64 = .ok (.ineg, 1) := by decide +kernel
theorem dX10_readComparison_65 : decode cX10_readComparison 65 = .ok (.invokevirtual 56, 3) := by decide +kernel
theorem dX10_readComparison_68 : decode cX10_readComparison 68 = .ok (.return_, 1) := by decide +kernel
theorem dX10_goesIn_0 : decode cX10_goesIn 0 = .ok (.iload_n 1, 1) := by decide +kernel
theorem dX10_goesIn_1 : decode cX10_goesIn 1 = .ok (.bipush 6, 2) := by decide +kernel
theorem dX10_goesIn_3 : decode cX10_goesIn 3 = .ok (.if_icmp .lt 19, 3) := by decide +kernel
theorem dX10_goesIn_6 : decode cX10_goesIn 6 = .ok (.aload_n 0, 1) := by decide +kernel
theorem dX10_goesIn_7 : decode cX10_goesIn 7 = .ok (.getfield 9, 3) := by decide +kernel
theorem dX10_goesIn_10 : decode cX10_goesIn 10 = .ok (.aload_n 0, 1) := by decide +kernel
theorem dX10_goesIn_11 : decode cX10_goesIn 11 = .ok (.getfield 9, 3) := by decide +kernel
theorem dX10_goesIn_14 : decode cX10_goesIn 14 = .ok (.getfield 71, 3) := by decide +kernel
theorem dX10_goesIn_17 : decode cX10_goesIn 17 = .ok (.invokevirtual 74, 3) := by decide +kernel
theorem dX10_goesIn_20 : decode cX10_goesIn 20 = .ok (.iconst 0, 1) := by decide +kernel
theorem dX10_goesIn_21 : decode cX10_goesIn 21 = .ok (.ireturn, 1) := by decide +kernel
theorem dX10_goesIn_22 : decode cX10_goesIn 22 = .ok (.aload_n 0, 1) := by decide +kernel
theorem dX10_goesIn_23 : decode cX10_goesIn 23 = .ok (.getfield 9, 3) := by decide +kernel
theorem dX10_goesIn_26 : decode cX10_goesIn 26 = .ok (.dup, 1) := by decide +kernel
theorem dX10_goesIn_27 : decode cX10_goesIn 27 = .ok (.getfield 71, 3) := by decide +kernel
theorem dX10_goesIn_30 : decode cX10_goesIn 30 = .ok (.iconst 1, 1) := by decide +kernel
theorem dX10_goesIn_31 : decode cX10_goesIn 31 = .ok (.iadd, 1) := by decide +kernel
theorem dX10_goesIn_32 : decode cX10_goesIn 32 = .ok (.putfield 71, 3) := by decide +kernel
theorem dX10_goesIn_35 : decode cX10_goesIn 35 = .ok (.iconst 1, 1) := by decide +kernel
theorem dX10_goesIn_36 : decode cX10_goesIn 36 = .ok (.ireturn, 1) := by decide +kernel
theorem dX10_readSum_0 : decode cX10_readSum 0 = .ok (.aload_n 0, 1) := by decide +kernel
theorem dX10_readSum_1 : decode cX10_readSum 1 = .ok (.aload_n 1, 1) := by decide +kernel
theorem dX10_readSum_2 : decode cX10_readSum 2 = .ok (.iload_n 2, 1) := by decide +kernel
theorem dX10_readSum_3 : decode cX10_readSum 3 = .ok (.invokevirtual 77, 3) := by decide +kernel
theorem dX10_readSum_6 : decode cX10_readSum 6 = .ok (.iconst 0, 1) := by decide +kernel
theorem dX10_readSum_7 : decode cX10_readSum 7 = .ok (.istore_n 3, 1) := by decide +kernel
theorem dX10_readSum_8 : decode cX10_readSum 8 = .ok (.iload_n 3, 1) := by decide +kernel
theorem dX10_readSum_9 : decode cX10_readSum 9 = .ok (.sipush 240, 3) := by decide +kernel
theorem dX10_readSum_12 : decode cX10_readSum 12 = .ok (.if_icmp .ge 59, 3) := by decide +kernel
theorem dX10_readSum_15 : decode cX10_readSum 15 = .ok (.aload_n 0, 1) := by decide +kernel
theorem dX10_readSum_16 : decode cX10_readSum 16 = .ok (.getfield 9, 3) := by decide +kernel
theorem dX10_readSum_19 : decode cX10_readSum 19 = .ok (.invokevirtual 42, 3) := by decide +kernel
theorem dX10_readSum_22 : decode cX10_readSum 22 = .ok (.istore 4, 2) := by decide +kernel
theorem dX10_readSum_24 : decode cX10_readSum 24 = .ok (.iload 4, 2) := by decide +kernel
theorem dX10_readSum_26 : decode cX10_readSum 26 = .ok (.bipush 43, 2) := by decide +kernel
theorem dX10_readSum_28 : decode cX10_readSum 28 = .ok (.if_icmp .eq 11, 3) := by decide +kernel
theorem dX10_readSum_31 : decode cX10_readSum 31 = .ok (.iload 4, 2) := by decide +kernel
theorem dX10_readSum_33 : decode cX10_readSum 33 = .ok (.bipush 45, 2) := by decide +kernel
theorem dX10_readSum_35 : decode cX10_readSum 35 = .ok (.if_icmp .eq 4, 3) := by decide +kernel
theorem dX10_readSum_38 : decode cX10_readSum 38 = .ok (.return_, 1) := by decide +kernel
theorem dX10_readSum_39 : decode cX10_readSum 39 = .ok (.aload_n 0, 1) := by decide +kernel
theorem dX10_readSum_40 : decode cX10_readSum 40 = .ok (.getfield 9, 3) := by decide +kernel
theorem dX10_readSum_43 : decode cX10_readSum 43 = .ok (.dup, 1) := by decide +kernel
theorem dX10_readSum_44 : decode cX10_readSum 44 = .ok (.getfield 71, 3) := by decide +kernel
theorem dX10_readSum_47 : decode cX10_readSum 47 = .ok (.iconst 1, 1) := by decide +kernel
theorem dX10_readSum_48 : decode cX10_readSum 48 = .ok (.iadd, 1) := by decide +kernel
theorem dX10_readSum_49 : decode cX10_readSum 49 = .ok (.putfield 71, 3) := by decide +kernel
theorem dX10_readSum_52 : decode cX10_readSum 52 = .ok (.aload_n 0, 1) := by decide +kernel
theorem dX10_readSum_53 : decode cX10_readSum 53 = .ok (.aload_n 1, 1) := by decide +kernel
theorem dX10_readSum_54 : decode cX10_readSum 54 = .ok (.iload_n 2, 1) := by decide +kernel
theorem dX10_readSum_55 : decode cX10_readSum 55 = .ok (.invokevirtual 77, 3) := by decide +kernel
theorem dX10_readSum_58 : decode cX10_readSum 58 = .ok (.aload_n 1, 1) := by decide +kernel
theorem dX10_readSum_59 : decode cX10_readSum 59 = .ok (.iload 4, 2) := by decide +kernel
theorem dX10_readSum_61 : decode cX10_readSum 61 = .ok (.ineg, 1) := by decide +kernel
theorem dX10_readSum_62 : decode cX10_readSum 62 = .ok (.invokevirtual 56, 3) := by decide +kernel
theorem dX10_readSum_65 : decode cX10_readSum 65 = .ok (.iinc 3 1, 3) := by decide +kernel
theorem dX10_readSum_68 : decode cX10_readSum 68 = .ok (.goto (-60), 3) := by decide +kernel
theorem dX10_readSum_71 : decode cX10_readSum 71 = .ok (.return_, 1) := by decide +kernel
theorem dX10_readTerm_0 : decode cX10_readTerm 0 = .ok (.aload_n 0, 1) := by decide +kernel
theorem dX10_readTerm_1 : decode cX10_readTerm 1 = .ok (.aload_n 1, 1) := by decide +kernel
theorem dX10_readTerm_2 : decode cX10_readTerm 2 = .ok (.iload_n 2, 1) := by decide +kernel
theorem dX10_readTerm_3 : decode cX10_readTerm 3 = .ok (.invokevirtual 80, 3) := by decide +kernel
theorem dX10_readTerm_6 : decode cX10_readTerm 6 = .ok (.iconst 0, 1) := by decide +kernel
theorem dX10_readTerm_7 : decode cX10_readTerm 7 = .ok (.istore_n 3, 1) := by decide +kernel
theorem dX10_readTerm_8 : decode cX10_readTerm 8 = .ok (.iload_n 3, 1) := by decide +kernel
theorem dX10_readTerm_9 : decode cX10_readTerm 9 = .ok (.sipush 240, 3) := by decide +kernel
theorem dX10_readTerm_12 : decode cX10_readTerm 12 = .ok (.if_icmp .ge 59, 3) := by decide +kernel
theorem dX10_readTerm_15 : decode cX10_readTerm 15 = .ok (.aload_n 0, 1) := by decide +kernel
theorem dX10_readTerm_16 : decode cX10_readTerm 16 = .ok (.getfield 9, 3) := by decide +kernel
theorem dX10_readTerm_19 : decode cX10_readTerm 19 = .ok (.invokevirtual 42, 3) := by decide +kernel
theorem dX10_readTerm_22 : decode cX10_readTerm 22 = .ok (.istore 4, 2) := by decide +kernel
theorem dX10_readTerm_24 : decode cX10_readTerm 24 = .ok (.iload 4, 2) := by decide +kernel
theorem dX10_readTerm_26 : decode cX10_readTerm 26 = .ok (.bipush 42, 2) := by decide +kernel
theorem dX10_readTerm_28 : decode cX10_readTerm 28 = .ok (.if_icmp .eq 11, 3) := by decide +kernel
theorem dX10_readTerm_31 : decode cX10_readTerm 31 = .ok (.iload 4, 2) := by decide +kernel
theorem dX10_readTerm_33 : decode cX10_readTerm 33 = .ok (.bipush 47, 2) := by decide +kernel
theorem dX10_readTerm_35 : decode cX10_readTerm 35 = .ok (.if_icmp .eq 4, 3) := by decide +kernel
theorem dX10_readTerm_38 : decode cX10_readTerm 38 = .ok (.return_, 1) := by decide +kernel
theorem dX10_readTerm_39 : decode cX10_readTerm 39 = .ok (.aload_n 0, 1) := by decide +kernel
theorem dX10_readTerm_40 : decode cX10_readTerm 40 = .ok (.getfield 9, 3) := by decide +kernel
theorem dX10_readTerm_43 : decode cX10_readTerm 43 = .ok (.dup, 1) := by decide +kernel
theorem dX10_readTerm_44 : decode cX10_readTerm 44 = .ok (.getfield 71, 3) := by decide +kernel
theorem dX10_readTerm_47 : decode cX10_readTerm 47 = .ok (.iconst 1, 1) := by decide +kernel
theorem dX10_readTerm_48 : decode cX10_readTerm 48 = .ok (.iadd, 1) := by decide +kernel
theorem dX10_readTerm_49 : decode cX10_readTerm 49 = .ok (.putfield 71, 3) := by decide +kernel
theorem dX10_readTerm_52 : decode cX10_readTerm 52 = .ok (.aload_n 0, 1) := by decide +kernel
theorem dX10_readTerm_53 : decode cX10_readTerm 53 = .ok (.aload_n 1, 1) := by decide +kernel
theorem dX10_readTerm_54 : decode cX10_readTerm 54 = .ok (.iload_n 2, 1) := by decide +kernel
theorem dX10_readTerm_55 : decode cX10_readTerm 55 = .ok (.invokevirtual 80, 3) := by decide +kernel
theorem dX10_readTerm_58 : decode cX10_readTerm 58 = .ok (.aload_n 1, 1) := by decide +kernel
theorem dX10_readTerm_59 : decode cX10_readTerm 59 = .ok (.iload 4, 2) := by decide +kernel
theorem dX10_readTerm_61 : decode cX10_readTerm 61 = .ok (.ineg, 1) := by decide +kernel
theorem dX10_readTerm_62 : decode cX10_readTerm 62 = .ok (.invokevirtual 56, 3) := by decide +kernel
theorem dX10_readTerm_65 : decode cX10_readTerm 65 = .ok (.iinc 3 1, 3) := by decide +kernel
theorem dX10_readTerm_68 : decode cX10_readTerm 68 = .ok (.goto (-60), 3) := by decide +kernel
theorem dX10_readTerm_71 : decode cX10_readTerm 71 = .ok (.return_, 1) := by decide +kernel
theorem dX10_readAtom_0 : decode cX10_readAtom 0 = .ok (.aload_n 0, 1) := by decide +kernel
theorem dX10_readAtom_1 : decode cX10_readAtom 1 = .ok (.getfield 9, 3) := by decide +kernel
theorem dX10_readAtom_4 : decode cX10_readAtom 4 = .ok (.invokevirtual 42, 3) := by decide +kernel
theorem dX10_readAtom_7 : decode cX10_readAtom 7 = .ok (.istore_n 3, 1) := by decide +kernel
theorem dX10_readAtom_8 : decode cX10_readAtom 8 = .ok (.iload_n 3, 1) := by decide +kernel
theorem dX10_readAtom_9 : decode cX10_readAtom 9 = .ok (.ifCond .ge 7, 3) := by decide +kernel
theorem dX10_readAtom_12 : decode cX10_readAtom 12 = .ok (.iconst (-1), 1) := by decide +kernel
theorem dX10_readAtom_13 : decode cX10_readAtom 13 = .ok (.goto 10, 3) := by decide +kernel
theorem dX10_readAtom_16 : decode cX10_readAtom 16 = .ok (.ldc 83, 2) := by decide +kernel
theorem dX10_readAtom_18 : decode cX10_readAtom 18 = .ok (.iload_n 3, 1) := by decide +kernel
theorem dX10_readAtom_19 : decode cX10_readAtom 19 = .ok (.i2c, 1) := by decide +kernel
theorem dX10_readAtom_20 : decode cX10_readAtom 20 = .ok (.invokevirtual 85, 3) := by decide +kernel
theorem dX10_readAtom_23 : decode cX10_readAtom 23 = .ok (.istore 4, 2) := by decide +kernel
theorem dX10_readAtom_25 : decode cX10_readAtom 25 = .ok (.iload_n 3, 1) := by decide +kernel
theorem dX10_readAtom_26 : decode cX10_readAtom 26 = .ok (.bipush 91, 2) := by decide +kernel
theorem dX10_readAtom_28 : decode cX10_readAtom 28 = .ok (.if_icmp .ne 31, 3) := by decide +kernel
theorem dX10_readAtom_31 : decode cX10_readAtom 31 = .ok (.aload_n 0, 1) := by decide +kernel
theorem dX10_readAtom_32 : decode cX10_readAtom 32 = .ok (.iload_n 2, 1) := by decide +kernel
theorem dX10_readAtom_33 : decode cX10_readAtom 33 = .ok (.invokevirtual 65, 3) := by decide +kernel
theorem dX10_readAtom_36 : decode cX10_readAtom 36 = .ok (.ifCond .eq 70, 3) := by decide +kernel
theorem dX10_readAtom_39 : decode cX10_readAtom 39 = .ok (.aload_n 0, 1) := by decide +kernel
theorem dX10_readAtom_40 : decode cX10_readAtom 40 = .ok (.aload_n 1, 1) := by decide +kernel
theorem dX10_readAtom_41 : decode cX10_readAtom 41 = .ok (.iload_n 2, 1) := by decide +kernel
theorem dX10_readAtom_42 : decode cX10_readAtom 42 = .ok (.iconst 1, 1) := by decide +kernel
theorem dX10_readAtom_43 : decode cX10_readAtom 43 = .ok (.iadd, 1) := by decide +kernel
theorem dX10_readAtom_44 : decode cX10_readAtom 44 = .ok (.invokevirtual 45, 3) := by decide +kernel
theorem dX10_readAtom_47 : decode cX10_readAtom 47 = .ok (.aload_n 0, 1) := by decide +kernel
theorem dX10_readAtom_48 : decode cX10_readAtom 48 = .ok (.getfield 9, 3) := by decide +kernel
theorem dX10_readAtom_51 : decode cX10_readAtom 51 = .ok (.bipush 93, 2) := by decide +kernel
theorem dX10_readAtom_53 : decode cX10_readAtom 53 = .ok (.invokevirtual 38, 3) := by decide +kernel
theorem dX10_readAtom_56 : decode cX10_readAtom 56 = .ok (.goto 50, 3) := by decide +kernel
theorem dX10_readAtom_59 : decode cX10_readAtom 59 = .ok (.iload 4, 2) := by decide +kernel
theorem dX10_readAtom_61 : decode cX10_readAtom 61 = .ok (.ifCond .lt 29, 3) := by decide +kernel
theorem dX10_readAtom_64 : decode cX10_readAtom 64 = .ok (.aload_n 0, 1) := by decide +kernel
theorem dX10_readAtom_65 : decode cX10_readAtom 65 = .ok (.getfield 9, 3) := by decide +kernel
theorem dX10_readAtom_68 : decode cX10_readAtom 68 = .ok (.dup, 1) := by decide +kernel
theorem dX10_readAtom_69 : decode cX10_readAtom 69 = .ok (.getfield 71, 3) := by decide +kernel
theorem dX10_readAtom_72 : decode cX10_readAtom 72 = .ok (.iconst 1, 1) := by decide +kernel
theorem dX10_readAtom_73 : decode cX10_readAtom 73 = .ok (.iadd, 1) := by decide +kernel
theorem dX10_readAtom_74 : decode cX10_readAtom 74 = .ok (.putfield 71, 3) := by decide +kernel
theorem dX10_readAtom_77 : decode cX10_readAtom 77 = .ok (.aload_n 1, 1) := by decide +kernel
theorem dX10_readAtom_78 : decode cX10_readAtom 78 = .ok (.sipush 10000, 3) := by decide +kernel
theorem dX10_readAtom_81 : decode cX10_readAtom 81 = .ok (.iload 4, 2) := by decide +kernel
theorem dX10_readAtom_83 : decode cX10_readAtom 83 = .ok (.iadd, 1) := by decide +kernel
theorem dX10_readAtom_84 : decode cX10_readAtom 84 = .ok (.invokevirtual 56, 3) := by decide +kernel
theorem dX10_readAtom_87 : decode cX10_readAtom 87 = .ok (.goto 19, 3) := by decide +kernel
theorem dX10_readAtom_90 : decode cX10_readAtom 90 = .ok (.aload_n 1, 1) := by decide +kernel
theorem dX10_readAtom_91 : decode cX10_readAtom 91 = .ok (.aload_n 0, 1) := by decide +kernel
theorem dX10_readAtom_92 : decode cX10_readAtom 92 = .ok (.getfield 9, 3) := by decide +kernel
theorem dX10_readAtom_95 : decode cX10_readAtom 95 = .ok (.iconst 4, 1) := by decide +kernel
theorem dX10_readAtom_96 : decode cX10_readAtom 96 = .ok (.iconst 0, 1) := by decide +kernel
theorem dX10_readAtom_97 : decode cX10_readAtom 97 = .ok (.sipush 9999, 3) := by decide +kernel
theorem dX10_readAtom_100 : decode cX10_readAtom 100 = .ok (.invokevirtual 91, 3) := by decide +kernel
theorem dX10_readAtom_103 : decode cX10_readAtom 103 = .ok (.invokevirtual 56, 3) := by decide +kernel
theorem dX10_readAtom_106 : decode cX10_readAtom 106 = .ok (.return_, 1) := by decide +kernel
theorem dX11_init_0 : decode cX11_init 0 = .ok (.aload_n 0, 1) := by decide +kernel
theorem dX11_init_1 : decode cX11_init 1 = .ok (.invokespecial 3, 3) := by decide +kernel
theorem dX11_init_4 : decode cX11_init 4 = .ok (.aload_n 0, 1) := by decide +kernel
theorem dX11_init_5 : decode cX11_init 5 = .ok (.bipush 12, 2) := by decide +kernel
theorem dX11_init_7 : decode cX11_init 7 = .ok (.newarray .int, 2) := by decide +kernel
theorem dX11_init_9 : decode cX11_init 9 = .ok (.putfield 9, 3) := by decide +kernel
theorem dX11_init_12 : decode cX11_init 12 = .ok (.aload_n 0, 1) := by decide +kernel
theorem dX11_init_13 : decode cX11_init 13 = .ok (.bipush 20, 2) := by decide +kernel
theorem dX11_init_15 : decode cX11_init 15 = .ok (.newarray .int, 2) := by decide +kernel
theorem dX11_init_17 : decode cX11_init 17 = .ok (.putfield 15, 3) := by decide +kernel
theorem dX11_init_20 : decode cX11_init 20 = .ok (.aload_n 0, 1) := by decide +kernel
theorem dX11_init_21 : decode cX11_init 21 = .ok (.aload_n 1, 1) := by decide +kernel
theorem dX11_init_22 : decode cX11_init 22 = .ok (.putfield 18, 3) := by decide +kernel
theorem dX11_init_25 : decode cX11_init 25 = .ok (.return_, 1) := by decide +kernel
theorem dX11_reckon_0 : decode cX11_reckon 0 = .ok (.aload_n 0, 1) := by decide +kernel
theorem dX11_reckon_1 : decode cX11_reckon 1 = .ok (.getfield 18, 3) := by decide +kernel
theorem dX11_reckon_4 : decode cX11_reckon 4 = .ok (.getfield 22, 3) := by decide +kernel
theorem dX11_reckon_7 : decode cX11_reckon 7 = .ok (.astore_n 1, 1) := by decide +kernel
theorem dX11_reckon_8 : decode cX11_reckon 8 = .ok (.iconst 0, 1) := by decide +kernel
theorem dX11_reckon_9 : decode cX11_reckon 9 = .ok (.istore_n 2, 1) := by decide +kernel
theorem dX11_reckon_10 : decode cX11_reckon 10 = .ok (.iload_n 2, 1) := by decide +kernel
theorem dX11_reckon_11 : decode cX11_reckon 11 = .ok (.aload_n 1, 1) := by decide +kernel
theorem dX11_reckon_12 : decode cX11_reckon 12 = .ok (.getfield 28, 3) := by decide +kernel
theorem dX11_reckon_15 : decode cX11_reckon 15 = .ok (.if_icmp .ge 26, 3) := by decide +kernel
theorem dX11_reckon_18 : decode cX11_reckon 18 = .ok (.aload_n 0, 1) := by decide +kernel
theorem dX11_reckon_19 : decode cX11_reckon 19 = .ok (.getfield 9, 3) := by decide +kernel
theorem dX11_reckon_22 : decode cX11_reckon 22 = .ok (.iload_n 2, 1) := by decide +kernel
theorem dX11_reckon_23 : decode cX11_reckon 23 = .ok (.bipush 100, 2) := by decide +kernel
theorem dX11_reckon_25 : decode cX11_reckon 25 = .ok (.aload_n 0, 1) := by decide +kernel
theorem dX11_reckon_26 : decode cX11_reckon 26 = .ok (.getfield 18, 3) := by decide +kernel
theorem dX11_reckon_29 : decode cX11_reckon 29 = .ok (.iload_n 2, 1) := by decide +kernel
theorem dX11_reckon_30 : decode cX11_reckon 30 = .ok (.invokevirtual 34, 3) := by decide +kernel
theorem dX11_reckon_33 : decode cX11_reckon 33 = .ok (.imul, 1) := by decide +kernel
theorem dX11_reckon_34 : decode cX11_reckon 34 = .ok (.iastore, 1) := by decide +kernel
theorem dX11_reckon_35 : decode cX11_reckon 35 = .ok (.iinc 2 1, 3) := by decide +kernel
theorem dX11_reckon_38 : decode cX11_reckon 38 = .ok (.goto (-28), 3) := by decide +kernel
theorem dX11_reckon_41 : decode cX11_reckon 41 = .ok (.aload_n 1, 1) := by decide +kernel
theorem dX11_reckon_42 : decode cX11_reckon 42 = .ok (.getfield 38, 3) := by decide +kernel
theorem dX11_reckon_45 : decode cX11_reckon 45 = .ok (.iconst 1, 1) := by decide +kernel
theorem dX11_reckon_46 : decode cX11_reckon 46 = .ok (.isub, 1) := by decide +kernel
theorem dX11_reckon_47 : decode cX11_reckon 47 = .ok (.istore_n 2, 1) := by decide +kernel
theorem dX11_reckon_48 : decode cX11_reckon 48 = .ok (.iload_n 2, 1) := by decide +kernel
theorem dX11_reckon_49 : decode cX11_reckon 49 = .ok (.ifCond .lt 43, 3) := by decide +kernel
theorem dX11_reckon_52 : decode cX11_reckon 52 = .ok (.aload_n 0, 1) := by decide +kernel
theorem dX11_reckon_53 : decode cX11_reckon 53 = .ok (.getfield 15, 3) := by decide +kernel
theorem dX11_reckon_56 : decode cX11_reckon 56 = .ok (.iload_n 2, 1) := by decide +kernel
theorem dX11_reckon_57 : decode cX11_reckon 57 = .ok (.aload_n 1, 1) := by decide +kernel
theorem dX11_reckon_58 : decode cX11_reckon 58 = .ok (.getfield 41, 3) := by decide +kernel
theorem dX11_reckon_61 : decode cX11_reckon 61 = .ok (.iload_n 2, 1) := by decide +kernel
theorem dX11_reckon_62 : decode cX11_reckon 62 = .ok (.iaload, 1) := by decide +kernel
theorem dX11_reckon_63 : decode cX11_reckon 63 = .ok (.iconst 1, 1) := by decide +kernel
theorem dX11_reckon_64 : decode cX11_reckon 64 = .ok (.if_icmp .ne 11, 3) := by decide +kernel
theorem dX11_reckon_67 : decode cX11_reckon 67 = .ok (.aload_n 0, 1) := by decide +kernel
theorem dX11_reckon_68 : decode cX11_reckon 68 = .ok (.iload_n 2, 1) := by decide +kernel
theorem dX11_reckon_69 : decode cX11_reckon 69 = .ok (.invokevirtual 44, 3) := by decide +kernel
theorem dX11_reckon_72 : decode cX11_reckon 72 = .ok (.goto 13, 3) := by decide +kernel
theorem dX11_reckon_75 : decode cX11_reckon 75 = .ok (.aload_n 0, 1) := by decide +kernel
theorem dX11_reckon_76 : decode cX11_reckon 76 = .ok (.iload_n 2, 1) := by decide +kernel
theorem dX11_reckon_77 : decode cX11_reckon 77 = .ok (.aload_n 0, 1) := by decide +kernel
theorem dX11_reckon_78 : decode cX11_reckon 78 = .ok (.iload_n 2, 1) := by decide +kernel
theorem dX11_reckon_79 : decode cX11_reckon 79 = .ok (.invokevirtual 47, 3) := by decide +kernel
theorem dX11_reckon_82 : decode cX11_reckon 82 = .ok (.invokevirtual 50, 3) := by decide +kernel
theorem dX11_reckon_85 : decode cX11_reckon 85 = .ok (.iastore, 1) := by decide +kernel
theorem dX11_reckon_86 : decode cX11_reckon 86 = .ok (.iinc 2 (-1), 3) := by decide +kernel
theorem dX11_reckon_89 : decode cX11_reckon 89 = .ok (.goto (-41), 3) := by decide +kernel
theorem dX11_reckon_92 : decode cX11_reckon 92 = .ok (.return_, 1) := by decide +kernel
theorem dX11_behind_0 : decode cX11_behind 0 = .ok (.aload_n 0, 1) := by decide +kernel
theorem dX11_behind_1 : decode cX11_behind 1 = .ok (.getfield 18, 3) := by decide +kernel
theorem dX11_behind_4 : decode cX11_behind 4 = .ok (.getfield 22, 3) := by decide +kernel
theorem dX11_behind_7 : decode cX11_behind 7 = .ok (.iload_n 1, 1) := by decide +kernel
theorem dX11_behind_8 : decode cX11_behind 8 = .ok (.iload_n 2, 1) := by decide +kernel
theorem dX11_behind_9 : decode cX11_behind 9 = .ok (.invokevirtual 54, 3) := by decide +kernel
theorem dX11_behind_12 : decode cX11_behind 12 = .ok (.ifCond .ne 5, 3) := by decide +kernel
theorem dX11_behind_15 : decode cX11_behind 15 = .ok (.iconst 0, 1) := by decide +kernel
theorem dX11_behind_16 : decode cX11_behind 16 = .ok (.ireturn, 1) := by decide +kernel
theorem dX11_behind_17 : decode cX11_behind 17 = .ok (.aload_n 0, 1) := by decide +kernel
theorem dX11_behind_18 : decode cX11_behind 18 = .ok (.getfield 18, 3) := by decide +kernel
theorem dX11_behind_21 : decode cX11_behind 21 = .ok (.getfield 22, 3) := by decide +kernel
theorem dX11_behind_24 : decode cX11_behind 24 = .ok (.iload_n 1, 1) := by decide +kernel
theorem dX11_behind_25 : decode cX11_behind 25 = .ok (.iload_n 2, 1) := by decide +kernel
theorem dX11_behind_26 : decode cX11_behind 26 = .ok (.invokevirtual 58, 3) := by decide +kernel
theorem dX11_behind_29 : decode cX11_behind 29 = .ok (.istore_n 3, 1) := by decide +kernel
theorem dX11_behind_30 : decode cX11_behind 30 = .ok (.iload_n 3, 1) := by decide +kernel
theorem dX11_behind_31 : decode cX11_behind 31 = .ok (.bipush 100, 2) := by decide +kernel
theorem dX11_behind_33 : decode cX11_behind 33 = .ok (.if_icmp .lt 15, 3) := by decide +kernel
theorem dX11_behind_36 : decode cX11_behind 36 = .ok (.aload_n 0, 1) := by decide +kernel
theorem dX11_behind_37 : decode cX11_behind 37 = .ok (.getfield 15, 3) := by decide +kernel
theorem dX11_behind_40 : decode cX11_behind 40 = .ok (.iload_n 3, 1) := by decide +kernel
theorem dX11_behind_41 : decode cX11_behind 41 = .ok (.bipush 100, 2) := by decide +kernel
theorem dX11_behind_43 : decode cX11_behind 43 = .ok (.isub, 1) := by decide +kernel
theorem dX11_behind_44 : decode cX11_behind 44 = .ok (.iaload, 1) := by decide +kernel
theorem dX11_behind_45 : decode cX11_behind 45 = .ok (.goto 9, 3) := by decide +kernel
theorem dX11_behind_48 : decode cX11_behind 48 = .ok (.aload_n 0, 1) := by decide +kernel
theorem dX11_behind_49 : decode cX11_behind 49 = .ok (.getfield 9, 3) := by decide +kernel
theorem dX11_behind_52 : decode cX11_behind 52 = .ok (.iload_n 3, 1) := by decide +kernel
theorem dX11_behind_53 : decode cX11_behind 53 = .ok (.iaload, 1) := by decide +kernel
theorem dX11_behind_54 : decode cX11_behind 54 = .ok (.ireturn, 1) := by decide +kernel
theorem dX11_bestBranch_0 : decode cX11_bestBranch 0 = .ok (.iconst (-1), 1) := by decide +kernel
theorem dX11_bestBranch_1 : decode cX11_bestBranch 1 = .ok (.istore_n 2, 1) := by decide +kernel
theorem dX11_bestBranch_2 : decode cX11_bestBranch 2 = .ok (.iconst 0, 1) := by decide +kernel
theorem dX11_bestBranch_3 : decode cX11_bestBranch 3 = .ok (.istore_n 3, 1) := by decide +kernel
theorem dX11_bestBranch_4 : decode cX11_bestBranch 4 = .ok (.iload_n 3, 1) := by decide +kernel
theorem dX11_bestBranch_5 : decode cX11_bestBranch 5 = .ok (.aload_n 0, 1) := by decide +kernel
theorem dX11_bestBranch_6 : decode cX11_bestBranch 6 = .ok (.getfield 18, 3) := by decide +kernel
theorem dX11_bestBranch_9 : decode cX11_bestBranch 9 = .ok (.getfield 22, 3) := by decide +kernel
theorem dX11_bestBranch_12 : decode cX11_bestBranch 12 = .ok (.getfield 61, 3) := by decide +kernel
theorem dX11_bestBranch_15 : decode cX11_bestBranch 15 = .ok (.iload_n 1, 1) := by decide +kernel
theorem dX11_bestBranch_16 : decode cX11_bestBranch 16 = .ok (.iaload, 1) := by decide +kernel
theorem dX11_bestBranch_17 : decode cX11_bestBranch 17 = .ok (.if_icmp .ge 43, 3) := by decide +kernel
theorem dX11_bestBranch_20 : decode cX11_bestBranch 20 = .ok (.aload_n 0, 1) := by decide +kernel
theorem dX11_bestBranch_21 : decode cX11_bestBranch 21 = .ok (.getfield 18, 3) := by decide +kernel
theorem dX11_bestBranch_24 : decode cX11_bestBranch 24 = .ok (.iload_n 1, 1) := by decide +kernel
theorem dX11_bestBranch_25 : decode cX11_bestBranch 25 = .ok (.iload_n 3, 1) := by decide +kernel
theorem dX11_bestBranch_26 : decode cX11_bestBranch 26 = .ok (.invokevirtual 64, 3) := by decide +kernel
theorem dX11_bestBranch_29 : decode cX11_bestBranch 29 = .ok (.ifCond .eq 25, 3) := by decide +kernel
theorem dX11_bestBranch_32 : decode cX11_bestBranch 32 = .ok (.iload_n 2, 1) := by decide +kernel
theorem dX11_bestBranch_33 : decode cX11_bestBranch 33 = .ok (.iconst (-1), 1) := by decide +kernel
theorem dX11_bestBranch_34 : decode cX11_bestBranch 34 = .ok (.if_icmp .eq 18, 3) := by decide +kernel
theorem dX11_bestBranch_37 : decode cX11_bestBranch 37 = .ok (.aload_n 0, 1) := by decide +kernel
theorem dX11_bestBranch_38 : decode cX11_bestBranch 38 = .ok (.iload_n 1, 1) := by decide +kernel
theorem dX11_bestBranch_39 : decode cX11_bestBranch 39 = .ok (.iload_n 3, 1) := by decide +kernel
theorem dX11_bestBranch_40 : decode cX11_bestBranch 40 = .ok (.invokevirtual 50, 3) := by decide +kernel
theorem dX11_bestBranch_43 : decode cX11_bestBranch 43 = .ok (.aload_n 0, 1) := by decide +kernel
theorem dX11_bestBranch_44 : decode cX11_bestBranch 44 = .ok (.iload_n 1, 1) := by decide +kernel
theorem dX11_bestBranch_45 : decode cX11_bestBranch 45 = .ok (.iload_n 2, 1) := by decide +kernel
theorem dX11_bestBranch_46 : decode cX11_bestBranch 46 = .ok (.invokevirtual 50, 3) := by decide +kernel
theorem dX11_bestBranch_49 : decode cX11_bestBranch 49 = .ok (.if_icmp .le 5, 3) := by decide +kernel
theorem dX11_bestBranch_52 : decode cX11_bestBranch 52 = .ok (.iload_n 3, 1) := by decide +kernel
theorem dX11_bestBranch_53 : decode cX11_bestBranch 53 = .ok (.istore_n 2, 1) := by decide +kernel
theorem dX11_bestBranch_54 : decode cX11_bestBranch 54 = .ok (.iinc 3 1, 3) := by decide +kernel
theorem dX11_bestBranch_57 : decode cX11_bestBranch 57 = .ok (.goto (-53), 3) := by decide +kernel
theorem dX11_bestBranch_60 : decode cX11_bestBranch 60 = .ok (.iload_n 2, 1) := by decide +kernel
theorem dX11_bestBranch_61 : decode cX11_bestBranch 61 = .ok (.ireturn, 1) := by decide +kernel
theorem dX11_byChance_0 : decode cX11_byChance 0 = .ok (.lconst 0, 1) := by decide +kernel
theorem dX11_byChance_1 : decode cX11_byChance 1 = .ok (.lstore_n 2, 1) := by decide +kernel
theorem dX11_byChance_2 : decode cX11_byChance 2 = .ok (.iconst 0, 1) := by decide +kernel
theorem dX11_byChance_3 : decode cX11_byChance 3 = .ok (.istore 4, 2) := by decide +kernel
theorem dX11_byChance_5 : decode cX11_byChance 5 = .ok (.iload 4, 2) := by decide +kernel
theorem dX11_byChance_7 : decode cX11_byChance 7 = .ok (.aload_n 0, 1) := by decide +kernel
theorem dX11_byChance_8 : decode cX11_byChance 8 = .ok (.getfield 18, 3) := by decide +kernel
theorem dX11_byChance_11 : decode cX11_byChance 11 = .ok (.getfield 22, 3) := by decide +kernel
theorem dX11_byChance_14 : decode cX11_byChance 14 = .ok (.getfield 61, 3) := by decide +kernel
theorem dX11_byChance_17 : decode cX11_byChance 17 = .ok (.iload_n 1, 1) := by decide +kernel
theorem dX11_byChance_18 : decode cX11_byChance 18 = .ok (.iaload, 1) := by decide +kernel
theorem dX11_byChance_19 : decode cX11_byChance 19 = .ok (.if_icmp .ge 48, 3) := by decide +kernel
theorem dX11_byChance_22 : decode cX11_byChance 22 = .ok (.aload_n 0, 1) := by decide +kernel
theorem dX11_byChance_23 : decode cX11_byChance 23 = .ok (.getfield 18, 3) := by decide +kernel
theorem dX11_byChance_26 : decode cX11_byChance 26 = .ok (.iload_n 1, 1) := by decide +kernel
theorem dX11_byChance_27 : decode cX11_byChance 27 = .ok (.iload 4, 2) := by decide +kernel
theorem dX11_byChance_29 : decode cX11_byChance 29 = .ok (.invokevirtual 64, 3) := by decide +kernel
theorem dX11_byChance_32 : decode cX11_byChance 32 = .ok (.ifCond .eq 29, 3) := by decide +kernel
theorem dX11_byChance_35 : decode cX11_byChance 35 = .ok (.lload_n 2, 1) := by decide +kernel
theorem dX11_byChance_36 : decode cX11_byChance 36 = .ok (.aload_n 0, 1) := by decide +kernel
theorem dX11_byChance_37 : decode cX11_byChance 37 = .ok (.iload_n 1, 1) := by decide +kernel
theorem dX11_byChance_38 : decode cX11_byChance 38 = .ok (.iload 4, 2) := by decide +kernel
theorem dX11_byChance_40 : decode cX11_byChance 40 = .ok (.invokevirtual 50, 3) := by decide +kernel
theorem dX11_byChance_43 : decode cX11_byChance 43 = .ok (.i2l, 1) := by decide +kernel
theorem dX11_byChance_44 : decode cX11_byChance 44 = .ok (.aload_n 0, 1) := by decide +kernel
theorem dX11_byChance_45 : decode cX11_byChance 45 = .ok (.getfield 18, 3) := by decide +kernel
theorem dX11_byChance_48 : decode cX11_byChance 48 = .ok (.getfield 22, 3) := by decide +kernel
theorem dX11_byChance_51 : decode cX11_byChance 51 = .ok (.iload_n 1, 1) := by decide +kernel
theorem dX11_byChance_52 : decode cX11_byChance 52 = .ok (.iload 4, 2) := by decide +kernel
theorem dX11_byChance_54 : decode cX11_byChance 54 = .ok (.invokevirtual 67, 3) := by decide +kernel
theorem dX11_byChance_57 : decode cX11_byChance 57 = .ok (.i2l, 1) := by decide +kernel
theorem dX11_byChance_58 : decode cX11_byChance 58 = .ok (.lmul, 1) := by decide +kernel
theorem dX11_byChance_59 : decode cX11_byChance 59 = .ok (.ladd, 1) := by decide +kernel
theorem dX11_byChance_60 : decode cX11_byChance 60 = .ok (.lstore_n 2, 1) := by decide +kernel
theorem dX11_byChance_61 : decode cX11_byChance 61 = .ok (.iinc 4 1, 3) := by decide +kernel
theorem dX11_byChance_64 : decode cX11_byChance 64 = .ok (.goto (-59), 3) := by decide +kernel
theorem dX11_byChance_67 : decode cX11_byChance 67 = .ok (.aload_n 0, 1) := by decide +kernel
theorem dX11_byChance_68 : decode cX11_byChance 68 = .ok (.getfield 18, 3) := by decide +kernel
theorem dX11_byChance_71 : decode cX11_byChance 71 = .ok (.getfield 22, 3) := by decide +kernel
theorem dX11_byChance_74 : decode cX11_byChance 74 = .ok (.iload_n 1, 1) := by decide +kernel
theorem dX11_byChance_75 : decode cX11_byChance 75 = .ok (.aload_n 0, 1) := by decide +kernel
theorem dX11_byChance_76 : decode cX11_byChance 76 = .ok (.getfield 18, 3) := by decide +kernel
theorem dX11_byChance_79 : decode cX11_byChance 79 = .ok (.iload_n 1, 1) := by decide +kernel
theorem dX11_byChance_80 : decode cX11_byChance 80 = .ok (.invokevirtual 70, 3) := by decide +kernel
theorem dX11_byChance_83 : decode cX11_byChance 83 = .ok (.invokevirtual 73, 3) := by decide +kernel
theorem dX11_byChance_86 : decode cX11_byChance 86 = .ok (.istore 4, 2) := by decide +kernel
theorem dX11_byChance_88 : decode cX11_byChance 88 = .ok (.iload 4, 2) := by decide +kernel
theorem dX11_byChance_90 : decode cX11_byChance 90 = .ok (.ifCond .ne 7, 3) := by decide +kernel
theorem dX11_byChance_93 : decode cX11_byChance 93 = .ok (.iconst 0, 1) := by decide +kernel
theorem dX11_byChance_94 : decode cX11_byChance 94 = .ok (.goto 9, 3) := by decide +kernel
theorem dX11_byChance_97 : decode cX11_byChance 97 = .ok (.lload_n 2, 1) := by decide +kernel
theorem dX11_byChance_98 : decode cX11_byChance 98 = .ok (.iload 4, 2) := by decide +kernel
theorem dX11_byChance_100 : decode cX11_byChance 100 = .ok (.i2l, 1) := by decide +kernel
theorem dX11_byChance_101 : decode cX11_byChance 101 = .ok (.ldiv, 1) := by decide +kernel
theorem dX11_byChance_102 : decode cX11_byChance 102 = .ok (.l2i, 1) := by decide +kernel
theorem dX11_byChance_103 : decode cX11_byChance 103 = .ok (.ireturn, 1) := by decide +kernel
theorem dX11_regretAt_0 : decode cX11_regretAt 0 = .ok (.aload_n 0, 1) := by decide +kernel
theorem dX11_regretAt_1 : decode cX11_regretAt 1 = .ok (.getfield 18, 3) := by decide +kernel
theorem dX11_regretAt_4 : decode cX11_regretAt 4 = .ok (.getfield 22, 3) := by decide +kernel
theorem dX11_regretAt_7 : decode cX11_regretAt 7 = .ok (.getfield 76, 3) := by decide +kernel
theorem dX11_regretAt_10 : decode cX11_regretAt 10 = .ok (.iload_n 1, 1) := by decide +kernel
theorem dX11_regretAt_11 : decode cX11_regretAt 11 = .ok (.aaload, 1) := by decide +kernel
theorem dX11_regretAt_12 : decode cX11_regretAt 12 = .ok (.iload_n 2, 1) := by decide +kernel
theorem dX11_regretAt_13 : decode cX11_regretAt 13 = .ok (.iaload, 1) := by decide +kernel
theorem dX11_regretAt_14 : decode cX11_regretAt 14 = .ok (.istore_n 3, 1) := by decide +kernel
theorem dX11_regretAt_15 : decode cX11_regretAt 15 = .ok (.aload_n 0, 1) := by decide +kernel
theorem dX11_regretAt_16 : decode cX11_regretAt 16 = .ok (.getfield 18, 3) := by decide +kernel
theorem dX11_regretAt_19 : decode cX11_regretAt 19 = .ok (.getfield 22, 3) := by decide +kernel
theorem dX11_regretAt_22 : decode cX11_regretAt 22 = .ok (.getfield 41, 3) := by decide +kernel
theorem dX11_regretAt_25 : decode cX11_regretAt 25 = .ok (.iload_n 3, 1) := by decide +kernel
theorem dX11_regretAt_26 : decode cX11_regretAt 26 = .ok (.iaload, 1) := by decide +kernel
theorem dX11_regretAt_27 : decode cX11_regretAt 27 = .ok (.iconst 1, 1) := by decide +kernel
theorem dX11_regretAt_28 : decode cX11_regretAt 28 = .ok (.if_icmp .ne 5, 3) := by decide +kernel
theorem dX11_regretAt_31 : decode cX11_regretAt 31 = .ok (.iconst 0, 1) := by decide +kernel
theorem dX11_regretAt_32 : decode cX11_regretAt 32 = .ok (.ireturn, 1) := by decide +kernel
theorem dX11_regretAt_33 : decode cX11_regretAt 33 = .ok (.iconst 0, 1) := by decide +kernel
theorem dX11_regretAt_34 : decode cX11_regretAt 34 = .ok (.aload_n 0, 1) := by decide +kernel
theorem dX11_regretAt_35 : decode cX11_regretAt 35 = .ok (.getfield 15, 3) := by decide +kernel
theorem dX11_regretAt_38 : decode cX11_regretAt 38 = .ok (.iload_n 3, 1) := by decide +kernel
theorem dX11_regretAt_39 : decode cX11_regretAt 39 = .ok (.iaload, 1) := by decide +kernel
theorem dX11_regretAt_40 : decode cX11_regretAt 40 = .ok (.aload_n 0, 1) := by decide +kernel
theorem dX11_regretAt_41 : decode cX11_regretAt 41 = .ok (.iload_n 3, 1) := by decide +kernel
theorem dX11_regretAt_42 : decode cX11_regretAt 42 = .ok (.aload_n 0, 1) := by decide +kernel
theorem dX11_regretAt_43 : decode cX11_regretAt 43 = .ok (.getfield 18, 3) := by decide +kernel
theorem dX11_regretAt_46 : decode cX11_regretAt 46 = .ok (.getfield 22, 3) := by decide +kernel
theorem dX11_regretAt_49 : decode cX11_regretAt 49 = .ok (.getfield 80, 3) := by decide +kernel
theorem dX11_regretAt_52 : decode cX11_regretAt 52 = .ok (.iload_n 1, 1) := by decide +kernel
theorem dX11_regretAt_53 : decode cX11_regretAt 53 = .ok (.aaload, 1) := by decide +kernel
theorem dX11_regretAt_54 : decode cX11_regretAt 54 = .ok (.iload_n 2, 1) := by decide +kernel
theorem dX11_regretAt_55 : decode cX11_regretAt 55 = .ok (.iaload, 1) := by decide +kernel
theorem dX11_regretAt_56 : decode cX11_regretAt 56 = .ok (.invokevirtual 50, 3) := by decide +kernel
theorem dX11_regretAt_59 : decode cX11_regretAt 59 = .ok (.isub, 1) := by decide +kernel
theorem dX11_regretAt_60 : decode cX11_regretAt 60 = .ok (.invokestatic 83, 3) := by decide +kernel
theorem dX11_regretAt_63 : decode cX11_regretAt 63 = .ok (.ireturn, 1) := by decide +kernel
theorem dX11_regrets_0 : decode cX11_regrets 0 = .ok (.iconst 0, 1) := by decide +kernel
theorem dX11_regrets_1 : decode cX11_regrets 1 = .ok (.istore_n 2, 1) := by decide +kernel
theorem dX11_regrets_2 : decode cX11_regrets 2 = .ok (.iconst 0, 1) := by decide +kernel
theorem dX11_regrets_3 : decode cX11_regrets 3 = .ok (.istore_n 3, 1) := by decide +kernel
theorem dX11_regrets_4 : decode cX11_regrets 4 = .ok (.iload_n 3, 1) := by decide +kernel
theorem dX11_regrets_5 : decode cX11_regrets 5 = .ok (.aload_n 0, 1) := by decide +kernel
theorem dX11_regrets_6 : decode cX11_regrets 6 = .ok (.getfield 18, 3) := by decide +kernel
theorem dX11_regrets_9 : decode cX11_regrets 9 = .ok (.getfield 22, 3) := by decide +kernel
theorem dX11_regrets_12 : decode cX11_regrets 12 = .ok (.getfield 88, 3) := by decide +kernel
theorem dX11_regrets_15 : decode cX11_regrets 15 = .ok (.iload_n 1, 1) := by decide +kernel
theorem dX11_regrets_16 : decode cX11_regrets 16 = .ok (.iaload, 1) := by decide +kernel
theorem dX11_regrets_17 : decode cX11_regrets 17 = .ok (.if_icmp .ge 18, 3) := by decide +kernel
theorem dX11_regrets_20 : decode cX11_regrets 20 = .ok (.iload_n 2, 1) := by decide +kernel
theorem dX11_regrets_21 : decode cX11_regrets 21 = .ok (.aload_n 0, 1) := by decide +kernel
theorem dX11_regrets_22 : decode cX11_regrets 22 = .ok (.iload_n 1, 1) := by decide +kernel
theorem dX11_regrets_23 : decode cX11_regrets 23 = .ok (.iload_n 3, 1) := by decide +kernel
theorem dX11_regrets_24 : decode cX11_regrets 24 = .ok (.invokevirtual 91, 3) := by decide +kernel
theorem dX11_regrets_27 : decode cX11_regrets 27 = .ok (.iadd, 1) := by decide +kernel
theorem dX11_regrets_28 : decode cX11_regrets 28 = .ok (.istore_n 2, 1) := by decide +kernel
theorem dX11_regrets_29 : decode cX11_regrets 29 = .ok (.iinc 3 1, 3) := by decide +kernel
theorem dX11_regrets_32 : decode cX11_regrets 32 = .ok (.goto (-28), 3) := by decide +kernel
theorem dX11_regrets_35 : decode cX11_regrets 35 = .ok (.iload_n 2, 1) := by decide +kernel
theorem dX11_regrets_36 : decode cX11_regrets 36 = .ok (.ireturn, 1) := by decide +kernel
theorem dX11_sorest_0 : decode cX11_sorest 0 = .ok (.iconst (-1), 1) := by decide +kernel
theorem dX11_sorest_1 : decode cX11_sorest 1 = .ok (.istore_n 2, 1) := by decide +kernel
theorem dX11_sorest_2 : decode cX11_sorest 2 = .ok (.iconst 0, 1) := by decide +kernel
theorem dX11_sorest_3 : decode cX11_sorest 3 = .ok (.istore_n 3, 1) := by decide +kernel
theorem dX11_sorest_4 : decode cX11_sorest 4 = .ok (.iload_n 3, 1) := by decide +kernel
theorem dX11_sorest_5 : decode cX11_sorest 5 = .ok (.aload_n 0, 1) := by decide +kernel
theorem dX11_sorest_6 : decode cX11_sorest 6 = .ok (.getfield 18, 3) := by decide +kernel
theorem dX11_sorest_9 : decode cX11_sorest 9 = .ok (.getfield 22, 3) := by decide +kernel
theorem dX11_sorest_12 : decode cX11_sorest 12 = .ok (.getfield 88, 3) := by decide +kernel
theorem dX11_sorest_15 : decode cX11_sorest 15 = .ok (.iload_n 1, 1) := by decide +kernel
theorem dX11_sorest_16 : decode cX11_sorest 16 = .ok (.iaload, 1) := by decide +kernel
theorem dX11_sorest_17 : decode cX11_sorest 17 = .ok (.if_icmp .ge 31, 3) := by decide +kernel
theorem dX11_sorest_20 : decode cX11_sorest 20 = .ok (.iload_n 2, 1) := by decide +kernel
theorem dX11_sorest_21 : decode cX11_sorest 21 = .ok (.iconst (-1), 1) := by decide +kernel
theorem dX11_sorest_22 : decode cX11_sorest 22 = .ok (.if_icmp .eq 18, 3) := by decide +kernel
theorem dX11_sorest_25 : decode cX11_sorest 25 = .ok (.aload_n 0, 1) := by decide +kernel
theorem dX11_sorest_26 : decode cX11_sorest 26 = .ok (.iload_n 1, 1) := by decide +kernel
theorem dX11_sorest_27 : decode cX11_sorest 27 = .ok (.iload_n 3, 1) := by decide +kernel
theorem dX11_sorest_28 : decode cX11_sorest 28 = .ok (.invokevirtual 91, 3) := by decide +kernel
theorem dX11_sorest_31 : decode cX11_sorest 31 = .ok (.aload_n 0, 1) := by decide +kernel
theorem dX11_sorest_32 : decode cX11_sorest 32 = .ok (.iload_n 1, 1) := by decide +kernel
theorem dX11_sorest_33 : decode cX11_sorest 33 = .ok (.iload_n 2, 1) := by decide +kernel
theorem dX11_sorest_34 : decode cX11_sorest 34 = .ok (.invokevirtual 91, 3) := by decide +kernel
theorem dX11_sorest_37 : decode cX11_sorest 37 = .ok (.if_icmp .le 5, 3) := by decide +kernel
theorem dX11_sorest_40 : decode cX11_sorest 40 = .ok (.iload_n 3, 1) := by decide +kernel
theorem dX11_sorest_41 : decode cX11_sorest 41 = .ok (.istore_n 2, 1) := by decide +kernel
theorem dX11_sorest_42 : decode cX11_sorest 42 = .ok (.iinc 3 1, 3) := by decide +kernel
theorem dX11_sorest_45 : decode cX11_sorest 45 = .ok (.goto (-41), 3) := by decide +kernel
theorem dX11_sorest_48 : decode cX11_sorest 48 = .ok (.iload_n 2, 1) := by decide +kernel
theorem dX11_sorest_49 : decode cX11_sorest 49 = .ok (.iconst (-1), 1) := by decide +kernel
theorem dX11_sorest_50 : decode cX11_sorest 50 = .ok (.if_icmp .ne 7, 3) := by decide +kernel
theorem dX11_sorest_53 : decode cX11_sorest 53 = .ok (.iconst (-1), 1) := by decide +kernel
theorem dX11_sorest_54 : decode cX11_sorest 54 = .ok (.goto 17, 3) := by decide +kernel
theorem dX11_sorest_57 : decode cX11_sorest 57 = .ok (.aload_n 0, 1) := by decide +kernel
theorem dX11_sorest_58 : decode cX11_sorest 58 = .ok (.getfield 18, 3) := by decide +kernel
theorem dX11_sorest_61 : decode cX11_sorest 61 = .ok (.getfield 22, 3) := by decide +kernel
theorem dX11_sorest_64 : decode cX11_sorest 64 = .ok (.getfield 76, 3) := by decide +kernel
theorem dX11_sorest_67 : decode cX11_sorest 67 = .ok (.iload_n 1, 1) := by decide +kernel
theorem dX11_sorest_68 : decode cX11_sorest 68 = .ok (.aaload, 1) := by decide +kernel
theorem dX11_sorest_69 : decode cX11_sorest 69 = .ok (.iload_n 2, 1) := by decide +kernel
theorem dX11_sorest_70 : decode cX11_sorest 70 = .ok (.iaload, 1) := by decide +kernel
theorem dX11_sorest_71 : decode cX11_sorest 71 = .ok (.ireturn, 1) := by decide +kernel
theorem dX11_lead_0 : decode cX11_lead 0 = .ok (.aload_n 0, 1) := by decide +kernel
theorem dX11_lead_1 : decode cX11_lead 1 = .ok (.getfield 18, 3) := by decide +kernel
theorem dX11_lead_4 : decode cX11_lead 4 = .ok (.getfield 22, 3) := by decide +kernel
theorem dX11_lead_7 : decode cX11_lead 7 = .ok (.astore_n 3, 1) := by decide +kernel
theorem dX11_lead_8 : decode cX11_lead 8 = .ok (.aload_n 3, 1) := by decide +kernel
theorem dX11_lead_9 : decode cX11_lead 9 = .ok (.iload_n 1, 1) := by decide +kernel
theorem dX11_lead_10 : decode cX11_lead 10 = .ok (.iload_n 2, 1) := by decide +kernel
theorem dX11_lead_11 : decode cX11_lead 11 = .ok (.invokevirtual 94, 3) := by decide +kernel
theorem dX11_lead_14 : decode cX11_lead 14 = .ok (.istore 4, 2) := by decide +kernel
theorem dX11_lead_16 : decode cX11_lead 16 = .ok (.aload_n 3, 1) := by decide +kernel
theorem dX11_lead_17 : decode cX11_lead 17 = .ok (.iload_n 1, 1) := by decide +kernel
theorem dX11_lead_18 : decode cX11_lead 18 = .ok (.iload 4, 2) := by decide +kernel
theorem dX11_lead_20 : decode cX11_lead 20 = .ok (.invokevirtual 97, 3) := by decide +kernel
theorem dX11_lead_23 : decode cX11_lead 23 = .ok (.istore 5, 2) := by decide +kernel
theorem dX11_lead_25 : decode cX11_lead 25 = .ok (.iload 5, 2) := by decide +kernel
theorem dX11_lead_27 : decode cX11_lead 27 = .ok (.iconst (-1), 1) := by decide +kernel
theorem dX11_lead_28 : decode cX11_lead 28 = .ok (.if_icmp .ne 5, 3) := by decide +kernel
theorem dX11_lead_31 : decode cX11_lead 31 = .ok (.iconst 0, 1) := by decide +kernel
theorem dX11_lead_32 : decode cX11_lead 32 = .ok (.ireturn, 1) := by decide +kernel
theorem dX11_lead_33 : decode cX11_lead 33 = .ok (.aload_n 0, 1) := by decide +kernel
theorem dX11_lead_34 : decode cX11_lead 34 = .ok (.iload 4, 2) := by decide +kernel
theorem dX11_lead_36 : decode cX11_lead 36 = .ok (.aload_n 3, 1) := by decide +kernel
theorem dX11_lead_37 : decode cX11_lead 37 = .ok (.getfield 80, 3) := by decide +kernel
theorem dX11_lead_40 : decode cX11_lead 40 = .ok (.iload_n 1, 1) := by decide +kernel
theorem dX11_lead_41 : decode cX11_lead 41 = .ok (.aaload, 1) := by decide +kernel
theorem dX11_lead_42 : decode cX11_lead 42 = .ok (.iload 5, 2) := by decide +kernel
theorem dX11_lead_44 : decode cX11_lead 44 = .ok (.iaload, 1) := by decide +kernel
theorem dX11_lead_45 : decode cX11_lead 45 = .ok (.invokevirtual 50, 3) := by decide +kernel
theorem dX11_lead_48 : decode cX11_lead 48 = .ok (.aload_n 0, 1) := by decide +kernel
theorem dX11_lead_49 : decode cX11_lead 49 = .ok (.iload 4, 2) := by decide +kernel
theorem dX11_lead_51 : decode cX11_lead 51 = .ok (.aload_n 3, 1) := by decide +kernel
theorem dX11_lead_52 : decode cX11_lead 52 = .ok (.getfield 80, 3) := by decide +kernel
theorem dX11_lead_55 : decode cX11_lead 55 = .ok (.iload_n 2, 1) := by decide +kernel
theorem dX11_lead_56 : decode cX11_lead 56 = .ok (.aaload, 1) := by decide +kernel
theorem dX11_lead_57 : decode cX11_lead 57 = .ok (.iload 5, 2) := by decide +kernel
theorem dX11_lead_59 : decode cX11_lead 59 = .ok (.iaload, 1) := by decide +kernel
theorem dX11_lead_60 : decode cX11_lead 60 = .ok (.invokevirtual 50, 3) := by decide +kernel
theorem dX11_lead_63 : decode cX11_lead 63 = .ok (.isub, 1) := by decide +kernel
theorem dX11_lead_64 : decode cX11_lead 64 = .ok (.ireturn, 1) := by decide +kernel
theorem dJ11_isValidCodePoint_9a6ad_0 : decode cJ11_isValidCodePoint_9a6ad 0 = .ok (.iload_n 0, 1) := by decide +kernel
theorem dJ11_isValidCodePoint_9a6ad_1 : decode cJ11_isValidCodePoint_9a6ad 1 = .ok (.bipush 16, 2) := by decide +kernel
theorem dJ11_isValidCodePoint_9a6ad_3 : decode cJ11_isValidCodePoint_9a6ad 3 = .ok (.iushr, 1) := by decide +kernel
theorem dJ11_isValidCodePoint_9a6ad_4 : decode cJ11_isValidCodePoint_9a6ad 4 = .ok (.istore_n 1, 1) := by decide +kernel
theorem dJ11_isValidCodePoint_9a6ad_5 : decode cJ11_isValidCodePoint_9a6ad 5 = .ok (.iload_n 1, 1) := by decide +kernel
theorem dJ11_isValidCodePoint_9a6ad_6 : decode cJ11_isValidCodePoint_9a6ad 6 = .ok (.bipush 17, 2) := by decide +kernel
theorem dJ11_isValidCodePoint_9a6ad_8 : decode cJ11_isValidCodePoint_9a6ad 8 = .ok (.if_icmp .ge 7, 3) := by decide +kernel
theorem dJ11_isValidCodePoint_9a6ad_11 : decode cJ11_isValidCodePoint_9a6ad 11 = .ok (.iconst 1, 1) := by decide +kernel
theorem dJ11_isValidCodePoint_9a6ad_12 : decode cJ11_isValidCodePoint_9a6ad 12 = .ok (.goto 4, 3) := by decide +kernel
theorem dJ11_isValidCodePoint_9a6ad_15 : decode cJ11_isValidCodePoint_9a6ad 15 = .ok (.iconst 0, 1) := by decide +kernel
theorem dJ11_isValidCodePoint_9a6ad_16 : decode cJ11_isValidCodePoint_9a6ad 16 = .ok (.ireturn, 1) := by decide +kernel
theorem dJ11_highSurrogate_5068e_0 : decode cJ11_highSurrogate_5068e 0 = .ok (.iload_n 0, 1) := by decide +kernel
theorem dJ11_highSurrogate_5068e_1 : decode cJ11_highSurrogate_5068e 1 = .ok (.bipush 10, 2) := by decide +kernel
theorem dJ11_highSurrogate_5068e_3 : decode cJ11_highSurrogate_5068e 3 = .ok (.iushr, 1) := by decide +kernel
theorem dJ11_highSurrogate_5068e_4 : decode cJ11_highSurrogate_5068e 4 = .ok (.ldc 110, 2) := by decide +kernel
theorem dJ11_highSurrogate_5068e_6 : decode cJ11_highSurrogate_5068e 6 = .ok (.iadd, 1) := by decide +kernel
theorem dJ11_highSurrogate_5068e_7 : decode cJ11_highSurrogate_5068e 7 = .ok (.i2c, 1) := by decide +kernel
theorem dJ11_highSurrogate_5068e_8 : decode cJ11_highSurrogate_5068e 8 = .ok (.ireturn, 1) := by decide +kernel
theorem dJ11_lowSurrogate_5068e_0 : decode cJ11_lowSurrogate_5068e 0 = .ok (.iload_n 0, 1) := by decide +kernel
theorem dJ11_lowSurrogate_5068e_1 : decode cJ11_lowSurrogate_5068e 1 = .ok (.sipush 1023, 3) := by decide +kernel
theorem dJ11_lowSurrogate_5068e_4 : decode cJ11_lowSurrogate_5068e 4 = .ok (.iand, 1) := by decide +kernel
theorem dJ11_lowSurrogate_5068e_5 : decode cJ11_lowSurrogate_5068e 5 = .ok (.ldc 76, 2) := by decide +kernel
theorem dJ11_lowSurrogate_5068e_7 : decode cJ11_lowSurrogate_5068e 7 = .ok (.iadd, 1) := by decide +kernel
theorem dJ11_lowSurrogate_5068e_8 : decode cJ11_lowSurrogate_5068e 8 = .ok (.i2c, 1) := by decide +kernel
theorem dJ11_lowSurrogate_5068e_9 : decode cJ11_lowSurrogate_5068e 9 = .ok (.ireturn, 1) := by decide +kernel
theorem dJ6_compare_7cf53_0 : decode cJ6_compare_7cf53 0 = .ok (.iload_n 0, 1) := by decide +kernel
theorem dJ6_compare_7cf53_1 : decode cJ6_compare_7cf53 1 = .ok (.iload_n 1, 1) := by decide +kernel
theorem dJ6_compare_7cf53_2 : decode cJ6_compare_7cf53 2 = .ok (.if_icmp .ge 7, 3) := by decide +kernel
theorem dJ6_compare_7cf53_5 : decode cJ6_compare_7cf53 5 = .ok (.iconst (-1), 1) := by decide +kernel
theorem dJ6_compare_7cf53_6 : decode cJ6_compare_7cf53 6 = .ok (.goto 13, 3) := by decide +kernel
theorem dJ6_compare_7cf53_9 : decode cJ6_compare_7cf53 9 = .ok (.iload_n 0, 1) := by decide +kernel
theorem dJ6_compare_7cf53_10 : decode cJ6_compare_7cf53 10 = .ok (.iload_n 1, 1) := by decide +kernel
theorem dJ6_compare_7cf53_11 : decode cJ6_compare_7cf53 11 = .ok (.if_icmp .ne 7, 3) := by decide +kernel
theorem dJ6_compare_7cf53_14 : decode cJ6_compare_7cf53 14 = .ok (.iconst 0, 1) := by decide +kernel
theorem dJ6_compare_7cf53_15 : decode cJ6_compare_7cf53 15 = .ok (.goto 4, 3) := by decide +kernel
theorem dJ6_compare_7cf53_18 : decode cJ6_compare_7cf53 18 = .ok (.iconst 1, 1) := by decide +kernel
theorem dJ6_compare_7cf53_19 : decode cJ6_compare_7cf53 19 = .ok (.ireturn, 1) := by decide +kernel
theorem dJ6_bitCount_0f7a4_0 : decode cJ6_bitCount_0f7a4 0 = .ok (.iload_n 0, 1) := by decide +kernel
theorem dJ6_bitCount_0f7a4_1 : decode cJ6_bitCount_0f7a4 1 = .ok (.iload_n 0, 1) := by decide +kernel
theorem dJ6_bitCount_0f7a4_2 : decode cJ6_bitCount_0f7a4 2 = .ok (.iconst 1, 1) := by decide +kernel
theorem dJ6_bitCount_0f7a4_3 : decode cJ6_bitCount_0f7a4 3 = .ok (.iushr, 1) := by decide +kernel
theorem dJ6_bitCount_0f7a4_4 : decode cJ6_bitCount_0f7a4 4 = .ok (.ldc_w 265, 3) := by decide +kernel
theorem dJ6_bitCount_0f7a4_7 : decode cJ6_bitCount_0f7a4 7 = .ok (.iand, 1) := by decide +kernel
theorem dJ6_bitCount_0f7a4_8 : decode cJ6_bitCount_0f7a4 8 = .ok (.isub, 1) := by decide +kernel
theorem dJ6_bitCount_0f7a4_9 : decode cJ6_bitCount_0f7a4 9 = .ok (.istore_n 0, 1) := by decide +kernel
theorem dJ6_bitCount_0f7a4_10 : decode cJ6_bitCount_0f7a4 10 = .ok (.iload_n 0, 1) := by decide +kernel
theorem dJ6_bitCount_0f7a4_11 : decode cJ6_bitCount_0f7a4 11 = .ok (.ldc_w 266, 3) := by decide +kernel
theorem dJ6_bitCount_0f7a4_14 : decode cJ6_bitCount_0f7a4 14 = .ok (.iand, 1) := by decide +kernel
theorem dJ6_bitCount_0f7a4_15 : decode cJ6_bitCount_0f7a4 15 = .ok (.iload_n 0, 1) := by decide +kernel
theorem dJ6_bitCount_0f7a4_16 : decode cJ6_bitCount_0f7a4 16 = .ok (.iconst 2, 1) := by decide +kernel
theorem dJ6_bitCount_0f7a4_17 : decode cJ6_bitCount_0f7a4 17 = .ok (.iushr, 1) := by decide +kernel
theorem dJ6_bitCount_0f7a4_18 : decode cJ6_bitCount_0f7a4 18 = .ok (.ldc_w 266, 3) := by decide +kernel
theorem dJ6_bitCount_0f7a4_21 : decode cJ6_bitCount_0f7a4 21 = .ok (.iand, 1) := by decide +kernel
theorem dJ6_bitCount_0f7a4_22 : decode cJ6_bitCount_0f7a4 22 = .ok (.iadd, 1) := by decide +kernel
theorem dJ6_bitCount_0f7a4_23 : decode cJ6_bitCount_0f7a4 23 = .ok (.istore_n 0, 1) := by decide +kernel
theorem dJ6_bitCount_0f7a4_24 : decode cJ6_bitCount_0f7a4 24 = .ok (.iload_n 0, 1) := by decide +kernel
theorem dJ6_bitCount_0f7a4_25 : decode cJ6_bitCount_0f7a4 25 = .ok (.iload_n 0, 1) := by decide +kernel
theorem dJ6_bitCount_0f7a4_26 : decode cJ6_bitCount_0f7a4 26 = .ok (.iconst 4, 1) := by decide +kernel
theorem dJ6_bitCount_0f7a4_27 : decode cJ6_bitCount_0f7a4 27 = .ok (.iushr, 1) := by decide +kernel
theorem dJ6_bitCount_0f7a4_28 : decode cJ6_bitCount_0f7a4 28 = .ok (.iadd, 1) := by decide +kernel
theorem dJ6_bitCount_0f7a4_29 : decode cJ6_bitCount_0f7a4 29 = .ok (.ldc_w 267, 3) := by decide +kernel
theorem dJ6_bitCount_0f7a4_32 : decode cJ6_bitCount_0f7a4 32 = .ok (.iand, 1) := by decide +kernel
theorem dJ6_bitCount_0f7a4_33 : decode cJ6_bitCount_0f7a4 33 = .ok (.istore_n 0, 1) := by decide +kernel
theorem dJ6_bitCount_0f7a4_34 : decode cJ6_bitCount_0f7a4 34 = .ok (.iload_n 0, 1) := by decide +kernel
theorem dJ6_bitCount_0f7a4_35 : decode cJ6_bitCount_0f7a4 35 = .ok (.iload_n 0, 1) := by decide +kernel
theorem dJ6_bitCount_0f7a4_36 : decode cJ6_bitCount_0f7a4 36 = .ok (.bipush 8, 2) := by decide +kernel
theorem dJ6_bitCount_0f7a4_38 : decode cJ6_bitCount_0f7a4 38 = .ok (.iushr, 1) := by decide +kernel
theorem dJ6_bitCount_0f7a4_39 : decode cJ6_bitCount_0f7a4 39 = .ok (.iadd, 1) := by decide +kernel
theorem dJ6_bitCount_0f7a4_40 : decode cJ6_bitCount_0f7a4 40 = .ok (.istore_n 0, 1) := by decide +kernel
theorem dJ6_bitCount_0f7a4_41 : decode cJ6_bitCount_0f7a4 41 = .ok (.iload_n 0, 1) := by decide +kernel
theorem dJ6_bitCount_0f7a4_42 : decode cJ6_bitCount_0f7a4 42 = .ok (.iload_n 0, 1) := by decide +kernel
theorem dJ6_bitCount_0f7a4_43 : decode cJ6_bitCount_0f7a4 43 = .ok (.bipush 16, 2) := by decide +kernel
theorem dJ6_bitCount_0f7a4_45 : decode cJ6_bitCount_0f7a4 45 = .ok (.iushr, 1) := by decide +kernel
theorem dJ6_bitCount_0f7a4_46 : decode cJ6_bitCount_0f7a4 46 = .ok (.iadd, 1) := by decide +kernel
theorem dJ6_bitCount_0f7a4_47 : decode cJ6_bitCount_0f7a4 47 = .ok (.istore_n 0, 1) := by decide +kernel
theorem dJ6_bitCount_0f7a4_48 : decode cJ6_bitCount_0f7a4 48 = .ok (.iload_n 0, 1) := by decide +kernel
theorem dJ6_bitCount_0f7a4_49 : decode cJ6_bitCount_0f7a4 49 = .ok (.bipush 63, 2) := by decide +kernel
theorem dJ6_bitCount_0f7a4_51 : decode cJ6_bitCount_0f7a4 51 = .ok (.iand, 1) := by decide +kernel
theorem dJ6_bitCount_0f7a4_52 : decode cJ6_bitCount_0f7a4 52 = .ok (.ireturn, 1) := by decide +kernel
theorem dJ6_signum_0f7a4_0 : decode cJ6_signum_0f7a4 0 = .ok (.iload_n 0, 1) := by decide +kernel
theorem dJ6_signum_0f7a4_1 : decode cJ6_signum_0f7a4 1 = .ok (.bipush 31, 2) := by decide +kernel
theorem dJ6_signum_0f7a4_3 : decode cJ6_signum_0f7a4 3 = .ok (.ishr, 1) := by decide +kernel
theorem dJ6_signum_0f7a4_4 : decode cJ6_signum_0f7a4 4 = .ok (.iload_n 0, 1) := by decide +kernel
theorem dJ6_signum_0f7a4_5 : decode cJ6_signum_0f7a4 5 = .ok (.ineg, 1) := by decide +kernel
theorem dJ6_signum_0f7a4_6 : decode cJ6_signum_0f7a4 6 = .ok (.bipush 31, 2) := by decide +kernel
theorem dJ6_signum_0f7a4_8 : decode cJ6_signum_0f7a4 8 = .ok (.iushr, 1) := by decide +kernel
theorem dJ6_signum_0f7a4_9 : decode cJ6_signum_0f7a4 9 = .ok (.ior, 1) := by decide +kernel
theorem dJ6_signum_0f7a4_10 : decode cJ6_signum_0f7a4 10 = .ok (.ireturn, 1) := by decide +kernel
theorem dJ9_max_7cf53_0 : decode cJ9_max_7cf53 0 = .ok (.iload_n 0, 1) := by decide +kernel
theorem dJ9_max_7cf53_1 : decode cJ9_max_7cf53 1 = .ok (.iload_n 1, 1) := by decide +kernel
theorem dJ9_max_7cf53_2 : decode cJ9_max_7cf53 2 = .ok (.if_icmp .lt 7, 3) := by decide +kernel
theorem dJ9_max_7cf53_5 : decode cJ9_max_7cf53 5 = .ok (.iload_n 0, 1) := by decide +kernel
theorem dJ9_max_7cf53_6 : decode cJ9_max_7cf53 6 = .ok (.goto 4, 3) := by decide +kernel
theorem dJ9_max_7cf53_9 : decode cJ9_max_7cf53 9 = .ok (.iload_n 1, 1) := by decide +kernel
theorem dJ9_max_7cf53_10 : decode cJ9_max_7cf53 10 = .ok (.ireturn, 1) := by decide +kernel
theorem dJ9_max_f86c9_0 : decode cJ9_max_f86c9 0 = .ok (.lload_n 0, 1) := by decide +kernel
theorem dJ9_max_f86c9_1 : decode cJ9_max_f86c9 1 = .ok (.lload_n 2, 1) := by decide +kernel
theorem dJ9_max_f86c9_2 : decode cJ9_max_f86c9 2 = .ok (.lcmp, 1) := by decide +kernel
theorem dJ9_max_f86c9_3 : decode cJ9_max_f86c9 3 = .ok (.ifCond .lt 7, 3) := by decide +kernel
theorem dJ9_max_f86c9_6 : decode cJ9_max_f86c9 6 = .ok (.lload_n 0, 1) := by decide +kernel
theorem dJ9_max_f86c9_7 : decode cJ9_max_f86c9 7 = .ok (.goto 4, 3) := by decide +kernel
theorem dJ9_max_f86c9_10 : decode cJ9_max_f86c9 10 = .ok (.lload_n 2, 1) := by decide +kernel
theorem dJ9_max_f86c9_11 : decode cJ9_max_f86c9 11 = .ok (.lreturn, 1) := by decide +kernel
theorem dJ9_min_7cf53_0 : decode cJ9_min_7cf53 0 = .ok (.iload_n 0, 1) := by decide +kernel
theorem dJ9_min_7cf53_1 : decode cJ9_min_7cf53 1 = .ok (.iload_n 1, 1) := by decide +kernel
theorem dJ9_min_7cf53_2 : decode cJ9_min_7cf53 2 = .ok (.if_icmp .gt 7, 3) := by decide +kernel
theorem dJ9_min_7cf53_5 : decode cJ9_min_7cf53 5 = .ok (.iload_n 0, 1) := by decide +kernel
theorem dJ9_min_7cf53_6 : decode cJ9_min_7cf53 6 = .ok (.goto 4, 3) := by decide +kernel
theorem dJ9_min_7cf53_9 : decode cJ9_min_7cf53 9 = .ok (.iload_n 1, 1) := by decide +kernel
theorem dJ9_min_7cf53_10 : decode cJ9_min_7cf53 10 = .ok (.ireturn, 1) := by decide +kernel
theorem dJ9_min_f86c9_0 : decode cJ9_min_f86c9 0 = .ok (.lload_n 0, 1) := by decide +kernel
theorem dJ9_min_f86c9_1 : decode cJ9_min_f86c9 1 = .ok (.lload_n 2, 1) := by decide +kernel
theorem dJ9_min_f86c9_2 : decode cJ9_min_f86c9 2 = .ok (.lcmp, 1) := by decide +kernel
theorem dJ9_min_f86c9_3 : decode cJ9_min_f86c9 3 = .ok (.ifCond .gt 7, 3) := by decide +kernel
theorem dJ9_min_f86c9_6 : decode cJ9_min_f86c9 6 = .ok (.lload_n 0, 1) := by decide +kernel
theorem dJ9_min_f86c9_7 : decode cJ9_min_f86c9 7 = .ok (.goto 4, 3) := by decide +kernel
theorem dJ9_min_f86c9_10 : decode cJ9_min_f86c9 10 = .ok (.lload_n 2, 1) := by decide +kernel
theorem dJ9_min_f86c9_11 : decode cJ9_min_f86c9 11 = .ok (.lreturn, 1) := by decide +kernel
theorem dJ0_length_8abf5_0 : decode cJ0_length_8abf5 0 = .ok (.aload_n 0, 1) := by decide +kernel
theorem dJ0_length_8abf5_1 : decode cJ0_length_8abf5 1 = .ok (.getfield 9, 3) := by decide +kernel
theorem dJ0_length_8abf5_4 : decode cJ0_length_8abf5 4 = .ok (.arraylength, 1) := by decide +kernel
theorem dJ0_length_8abf5_5 : decode cJ0_length_8abf5 5 = .ok (.aload_n 0, 1) := by decide +kernel
theorem dJ0_length_8abf5_6 : decode cJ0_length_8abf5 6 = .ok (.invokevirtual 335, 3) := by decide +kernel
theorem dJ0_length_8abf5_9 : decode cJ0_length_8abf5 9 = .ok (.ishr, 1) := by decide +kernel
theorem dJ0_length_8abf5_10 : decode cJ0_length_8abf5 10 = .ok (.ireturn, 1) := by decide +kernel
theorem dJ0_charAt_5068e_0 : decode cJ0_charAt_5068e 0 = .ok (.aload_n 0, 1) := by decide +kernel
theorem dJ0_charAt_5068e_1 : decode cJ0_charAt_5068e 1 = .ok (.invokevirtual 492, 3) := by decide +kernel
theorem dJ0_charAt_5068e_4 : decode cJ0_charAt_5068e 4 = .ok (.ifCond .eq 12, 3) := by decide +kernel
theorem dJ0_charAt_5068e_7 : decode cJ0_charAt_5068e 7 = .ok (.aload_n 0, 1) := by decide +kernel
theorem dJ0_charAt_5068e_8 : decode cJ0_charAt_5068e 8 = .ok (.getfield 9, 3) := by decide +kernel
theorem dJ0_charAt_5068e_11 : decode cJ0_charAt_5068e 11 = .ok (.iload_n 1, 1) := by decide +kernel
theorem dJ0_charAt_5068e_12 : decode cJ0_charAt_5068e 12 = .ok (.invokestatic 495, 3) := by decide +kernel
theorem dJ0_charAt_5068e_15 : decode cJ0_charAt_5068e 15 = .ok (.ireturn, 1) := by decide +kernel
theorem dJ0_charAt_5068e_16 : decode cJ0_charAt_5068e 16 = .ok (.aload_n 0, 1) := by decide +kernel
theorem dJ0_charAt_5068e_17 : decode cJ0_charAt_5068e 17 = .ok (.getfield 9, 3) := by decide +kernel
theorem dJ0_charAt_5068e_20 : decode cJ0_charAt_5068e 20 = .ok (.iload_n 1, 1) := by decide +kernel
theorem dJ0_charAt_5068e_21 : decode cJ0_charAt_5068e 21 = .ok (.invokestatic 498, 3) := by decide +kernel
theorem dJ0_charAt_5068e_24 : decode cJ0_charAt_5068e 24 = .ok (.ireturn, 1) := by decide +kernel
theorem dJ0_indexOf_0f7a4_0 : decode cJ0_indexOf_0f7a4 0 = .ok (.aload_n 0, 1) := by decide +kernel
theorem dJ0_indexOf_0f7a4_1 : decode cJ0_indexOf_0f7a4 1 = .ok (.iload_n 1, 1) := by decide +kernel
theorem dJ0_indexOf_0f7a4_2 : decode cJ0_indexOf_0f7a4 2 = .ok (.iconst 0, 1) := by decide +kernel
theorem dJ0_indexOf_0f7a4_3 : decode cJ0_indexOf_0f7a4 3 = .ok (.invokevirtual 633, 3) := by decide +kernel
theorem dJ0_indexOf_0f7a4_6 : decode cJ0_indexOf_0f7a4 6 = .ok (.ireturn, 1) := by decide +kernel
theorem dJ0_indexOf_7cf53_0 : decode cJ0_indexOf_7cf53 0 = .ok (.aload_n 0, 1) := by decide +kernel
theorem dJ0_indexOf_7cf53_1 : decode cJ0_indexOf_7cf53 1 = .ok (.invokevirtual 492, 3) := by decide +kernel
theorem dJ0_indexOf_7cf53_4 : decode cJ0_indexOf_7cf53 4 = .ok (.ifCond .eq 19, 3) := by decide +kernel
theorem dJ0_indexOf_7cf53_7 : decode cJ0_indexOf_7cf53 7 = .ok (.aload_n 0, 1) := by decide +kernel
theorem dJ0_indexOf_7cf53_8 : decode cJ0_indexOf_7cf53 8 = .ok (.getfield 9, 3) := by decide +kernel
theorem dJ0_indexOf_7cf53_11 : decode cJ0_indexOf_7cf53 11 = .ok (.iload_n 1, 1) := by decide +kernel
theorem dJ0_indexOf_7cf53_12 : decode cJ0_indexOf_7cf53 12 = .ok (.iload_n 2, 1) := by decide +kernel
theorem dJ0_indexOf_7cf53_13 : decode cJ0_indexOf_7cf53 13 = .ok (.aload_n 0, 1) := by decide +kernel
theorem dJ0_indexOf_7cf53_14 : decode cJ0_indexOf_7cf53 14 = .ok (.invokevirtual 505, 3) := by decide +kernel
theorem dJ0_indexOf_7cf53_17 : decode cJ0_indexOf_7cf53 17 = .ok (.invokestatic 637, 3) := by decide +kernel
theorem dJ0_indexOf_7cf53_20 : decode cJ0_indexOf_7cf53 20 = .ok (.goto 16, 3) := by decide +kernel
theorem dJ0_indexOf_7cf53_23 : decode cJ0_indexOf_7cf53 23 = .ok (.aload_n 0, 1) := by decide +kernel
theorem dJ0_indexOf_7cf53_24 : decode cJ0_indexOf_7cf53 24 = .ok (.getfield 9, 3) := by decide +kernel
theorem dJ0_indexOf_7cf53_27 : decode cJ0_indexOf_7cf53 27 = .ok (.iload_n 1, 1) := by decide +kernel
theorem dJ0_indexOf_7cf53_28 : decode cJ0_indexOf_7cf53 28 = .ok (.iload_n 2, 1) := by decide +kernel
theorem dJ0_indexOf_7cf53_29 : decode cJ0_indexOf_7cf53 29 = .ok (.aload_n 0, 1) := by decide +kernel
theorem dJ0_indexOf_7cf53_30 : decode cJ0_indexOf_7cf53 30 = .ok (.invokevirtual 505, 3) := by decide +kernel
theorem dJ0_indexOf_7cf53_33 : decode cJ0_indexOf_7cf53 33 = .ok (.invokestatic 640, 3) := by decide +kernel
theorem dJ0_indexOf_7cf53_36 : decode cJ0_indexOf_7cf53 36 = .ok (.ireturn, 1) := by decide +kernel
theorem dJ0_coder_7d493_0 : decode cJ0_coder_7d493 0 = .ok (.getstatic 38, 3) := by decide +kernel
theorem dJ0_coder_7d493_3 : decode cJ0_coder_7d493 3 = .ok (.ifCond .eq 10, 3) := by decide +kernel
theorem dJ0_coder_7d493_6 : decode cJ0_coder_7d493 6 = .ok (.aload_n 0, 1) := by decide +kernel
theorem dJ0_coder_7d493_7 : decode cJ0_coder_7d493 7 = .ok (.getfield 15, 3) := by decide +kernel
theorem dJ0_coder_7d493_10 : decode cJ0_coder_7d493 10 = .ok (.goto 4, 3) := by decide +kernel
theorem dJ0_coder_7d493_13 : decode cJ0_coder_7d493 13 = .ok (.iconst 1, 1) := by decide +kernel
theorem dJ0_coder_7d493_14 : decode cJ0_coder_7d493 14 = .ok (.ireturn, 1) := by decide +kernel
theorem dJ0_isLatin1_aae02_0 : decode cJ0_isLatin1_aae02 0 = .ok (.getstatic 38, 3) := by decide +kernel
theorem dJ0_isLatin1_aae02_3 : decode cJ0_isLatin1_aae02 3 = .ok (.ifCond .eq 14, 3) := by decide +kernel
theorem dJ0_isLatin1_aae02_6 : decode cJ0_isLatin1_aae02 6 = .ok (.aload_n 0, 1) := by decide +kernel
theorem dJ0_isLatin1_aae02_7 : decode cJ0_isLatin1_aae02 7 = .ok (.getfield 15, 3) := by decide +kernel
theorem dJ0_isLatin1_aae02_10 : decode cJ0_isLatin1_aae02 10 = .ok (.ifCond .ne 7, 3) := by decide +kernel
theorem dJ0_isLatin1_aae02_13 : decode cJ0_isLatin1_aae02 13 = .ok (.iconst 1, 1) := by decide +kernel
theorem dJ0_isLatin1_aae02_14 : decode cJ0_isLatin1_aae02 14 = .ok (.goto 4, 3) := by decide +kernel
theorem dJ0_isLatin1_aae02_17 : decode cJ0_isLatin1_aae02 17 = .ok (.iconst 0, 1) := by decide +kernel
theorem dJ0_isLatin1_aae02_18 : decode cJ0_isLatin1_aae02 18 = .ok (.ireturn, 1) := by decide +kernel
theorem dJ0_checkIndex_df160_0 : decode cJ0_checkIndex_df160 0 = .ok (.iload_n 0, 1) := by decide +kernel
theorem dJ0_checkIndex_df160_1 : decode cJ0_checkIndex_df160 1 = .ok (.iload_n 1, 1) := by decide +kernel
theorem dJ0_checkIndex_df160_2 : decode cJ0_checkIndex_df160 2 = .ok (.getstatic 1053, 3) := by decide +kernel
theorem dJ0_checkIndex_df160_5 : decode cJ0_checkIndex_df160 5 = .ok (.invokestatic 1059, 3) := by decide +kernel
theorem dJ0_checkIndex_df160_8 : decode cJ0_checkIndex_df160 8 = .ok (.pop, 1) := by decide +kernel
theorem dJ0_checkIndex_df160_9 : decode cJ0_checkIndex_df160 9 = .ok (.return_, 1) := by decide +kernel
theorem dJ0_checkBoundsBeginEnd_23922_0 : decode cJ0_checkBoundsBeginEnd_23922 0 = .ok (.iload_n 0, 1) := by decide +kernel
theorem dJ0_checkBoundsBeginEnd_23922_1 : decode cJ0_checkBoundsBeginEnd_23922 1 = .ok (.iload_n 1, 1) := by decide +kernel
theorem dJ0_checkBoundsBeginEnd_23922_2 : decode cJ0_checkBoundsBeginEnd_23922 2 = .ok (.iload_n 2, 1) := by decide +kernel
theorem dJ0_checkBoundsBeginEnd_23922_3 : decode cJ0_checkBoundsBeginEnd_23922 3 = .ok (.getstatic 1053, 3) := by decide +kernel
theorem dJ0_checkBoundsBeginEnd_23922_6 : decode cJ0_checkBoundsBeginEnd_23922 6 = .ok (.invokestatic 1062, 3) := by decide +kernel
theorem dJ0_checkBoundsBeginEnd_23922_9 : decode cJ0_checkBoundsBeginEnd_23922 9 = .ok (.pop, 1) := by decide +kernel
theorem dJ0_checkBoundsBeginEnd_23922_10 : decode cJ0_checkBoundsBeginEnd_23922 10 = .ok (.return_, 1) := by decide +kernel
theorem dJ1_charAt_3b067_0 : decode cJ1_charAt_3b067 0 = .ok (.iload_n 1, 1) := by decide +kernel
theorem dJ1_charAt_3b067_1 : decode cJ1_charAt_3b067 1 = .ok (.aload_n 0, 1) := by decide +kernel
theorem dJ1_charAt_3b067_2 : decode cJ1_charAt_3b067 2 = .ok (.arraylength, 1) := by decide +kernel
theorem dJ1_charAt_3b067_3 : decode cJ1_charAt_3b067 3 = .ok (.invokestatic 9, 3) := by decide +kernel
theorem dJ1_charAt_3b067_6 : decode cJ1_charAt_3b067 6 = .ok (.aload_n 0, 1) := by decide +kernel
theorem dJ1_charAt_3b067_7 : decode cJ1_charAt_3b067 7 = .ok (.iload_n 1, 1) := by decide +kernel
theorem dJ1_charAt_3b067_8 : decode cJ1_charAt_3b067 8 = .ok (.baload, 1) := by decide +kernel
theorem dJ1_charAt_3b067_9 : decode cJ1_charAt_3b067 9 = .ok (.sipush 255, 3) := by decide +kernel
theorem dJ1_charAt_3b067_12 : decode cJ1_charAt_3b067 12 = .ok (.iand, 1) := by decide +kernel
theorem dJ1_charAt_3b067_13 : decode cJ1_charAt_3b067 13 = .ok (.i2c, 1) := by decide +kernel
theorem dJ1_charAt_3b067_14 : decode cJ1_charAt_3b067 14 = .ok (.ireturn, 1) := by decide +kernel
theorem dJ1_canEncode_9a6ad_0 : decode cJ1_canEncode_9a6ad 0 = .ok (.iload_n 0, 1) := by decide +kernel
theorem dJ1_canEncode_9a6ad_1 : decode cJ1_canEncode_9a6ad 1 = .ok (.ifCond .lt 14, 3) := by decide +kernel
theorem dJ1_canEncode_9a6ad_4 : decode cJ1_canEncode_9a6ad 4 = .ok (.iload_n 0, 1) := by decide +kernel
theorem dJ1_canEncode_9a6ad_5 : decode cJ1_canEncode_9a6ad 5 = .ok (.sipush 255, 3) := by decide +kernel
theorem dJ1_canEncode_9a6ad_8 : decode cJ1_canEncode_9a6ad 8 = .ok (.if_icmp .gt 7, 3) := by decide +kernel
theorem dJ1_canEncode_9a6ad_11 : decode cJ1_canEncode_9a6ad 11 = .ok (.iconst 1, 1) := by decide +kernel
theorem dJ1_canEncode_9a6ad_12 : decode cJ1_canEncode_9a6ad 12 = .ok (.goto 4, 3) := by decide +kernel
theorem dJ1_canEncode_9a6ad_15 : decode cJ1_canEncode_9a6ad 15 = .ok (.iconst 0, 1) := by decide +kernel
theorem dJ1_canEncode_9a6ad_16 : decode cJ1_canEncode_9a6ad 16 = .ok (.ireturn, 1) := by decide +kernel
theorem dJ1_indexOf_4cfef_0 : decode cJ1_indexOf_4cfef 0 = .ok (.iload_n 1, 1) := by decide +kernel
theorem dJ1_indexOf_4cfef_1 : decode cJ1_indexOf_4cfef 1 = .ok (.invokestatic 88, 3) := by decide +kernel
theorem dJ1_indexOf_4cfef_4 : decode cJ1_indexOf_4cfef 4 = .ok (.ifCond .ne 5, 3) := by decide +kernel
theorem dJ1_indexOf_4cfef_7 : decode cJ1_indexOf_4cfef 7 = .ok (.iconst (-1), 1) := by decide +kernel
theorem dJ1_indexOf_4cfef_8 : decode cJ1_indexOf_4cfef 8 = .ok (.ireturn, 1) := by decide +kernel
theorem dJ1_indexOf_4cfef_9 : decode cJ1_indexOf_4cfef 9 = .ok (.iload_n 2, 1) := by decide +kernel
theorem dJ1_indexOf_4cfef_10 : decode cJ1_indexOf_4cfef 10 = .ok (.iconst 0, 1) := by decide +kernel
theorem dJ1_indexOf_4cfef_11 : decode cJ1_indexOf_4cfef 11 = .ok (.invokestatic 92, 3) := by decide +kernel
theorem dJ1_indexOf_4cfef_14 : decode cJ1_indexOf_4cfef 14 = .ok (.istore_n 2, 1) := by decide +kernel
theorem dJ1_indexOf_4cfef_15 : decode cJ1_indexOf_4cfef 15 = .ok (.iload_n 3, 1) := by decide +kernel
theorem dJ1_indexOf_4cfef_16 : decode cJ1_indexOf_4cfef 16 = .ok (.aload_n 0, 1) := by decide +kernel
theorem dJ1_indexOf_4cfef_17 : decode cJ1_indexOf_4cfef 17 = .ok (.arraylength, 1) := by decide +kernel
theorem dJ1_indexOf_4cfef_18 : decode cJ1_indexOf_4cfef 18 = .ok (.invokestatic 38, 3) := by decide +kernel
theorem dJ1_indexOf_4cfef_21 : decode cJ1_indexOf_4cfef 21 = .ok (.istore_n 3, 1) := by decide +kernel
theorem dJ1_indexOf_4cfef_22 : decode cJ1_indexOf_4cfef 22 = .ok (.iload_n 2, 1) := by decide +kernel
theorem dJ1_indexOf_4cfef_23 : decode cJ1_indexOf_4cfef 23 = .ok (.iload_n 3, 1) := by decide +kernel
theorem dJ1_indexOf_4cfef_24 : decode cJ1_indexOf_4cfef 24 = .ok (.if_icmp .lt 5, 3) := by decide +kernel
theorem dJ1_indexOf_4cfef_27 : decode cJ1_indexOf_4cfef 27 = .ok (.iconst (-1), 1) := by decide +kernel
theorem dJ1_indexOf_4cfef_28 : decode cJ1_indexOf_4cfef 28 = .ok (.ireturn, 1) := by decide +kernel
theorem dJ1_indexOf_4cfef_29 : decode cJ1_indexOf_4cfef 29 = .ok (.aload_n 0, 1) := by decide +kernel
theorem dJ1_indexOf_4cfef_30 : decode cJ1_indexOf_4cfef 30 = .ok (.iload_n 1, 1) := by decide +kernel
theorem dJ1_indexOf_4cfef_31 : decode cJ1_indexOf_4cfef 31 = .ok (.iload_n 2, 1) := by decide +kernel
theorem dJ1_indexOf_4cfef_32 : decode cJ1_indexOf_4cfef 32 = .ok (.iload_n 3, 1) := by decide +kernel
theorem dJ1_indexOf_4cfef_33 : decode cJ1_indexOf_4cfef 33 = .ok (.invokestatic 95, 3) := by decide +kernel
theorem dJ1_indexOf_4cfef_36 : decode cJ1_indexOf_4cfef 36 = .ok (.ireturn, 1) := by decide +kernel
theorem dJ1_indexOfChar_4cfef_0 : decode cJ1_indexOfChar_4cfef 0 = .ok (.iload_n 1, 1) := by decide +kernel
theorem dJ1_indexOfChar_4cfef_1 : decode cJ1_indexOfChar_4cfef 1 = .ok (.i2b, 1) := by decide +kernel
theorem dJ1_indexOfChar_4cfef_2 : decode cJ1_indexOfChar_4cfef 2 = .ok (.istore 4, 2) := by decide +kernel
theorem dJ1_indexOfChar_4cfef_4 : decode cJ1_indexOfChar_4cfef 4 = .ok (.iload_n 2, 1) := by decide +kernel
theorem dJ1_indexOfChar_4cfef_5 : decode cJ1_indexOfChar_4cfef 5 = .ok (.istore 5, 2) := by decide +kernel
theorem dJ1_indexOfChar_4cfef_7 : decode cJ1_indexOfChar_4cfef 7 = .ok (.iload 5, 2) := by decide +kernel
theorem dJ1_indexOfChar_4cfef_9 : decode cJ1_indexOfChar_4cfef 9 = .ok (.iload_n 3, 1) := by decide +kernel
theorem dJ1_indexOfChar_4cfef_10 : decode cJ1_indexOfChar_4cfef 10 = .ok (.if_icmp .ge 21, 3) := by decide +kernel
theorem dJ1_indexOfChar_4cfef_13 : decode cJ1_indexOfChar_4cfef 13 = .ok (.aload_n 0, 1) := by decide +kernel
theorem dJ1_indexOfChar_4cfef_14 : decode cJ1_indexOfChar_4cfef 14 = .ok (.iload 5, 2) := by decide +kernel
theorem dJ1_indexOfChar_4cfef_16 : decode cJ1_indexOfChar_4cfef 16 = .ok (.baload, 1) := by decide +kernel
theorem dJ1_indexOfChar_4cfef_17 : decode cJ1_indexOfChar_4cfef 17 = .ok (.iload 4, 2) := by decide +kernel
theorem dJ1_indexOfChar_4cfef_19 : decode cJ1_indexOfChar_4cfef 19 = .ok (.if_icmp .ne 6, 3) := by decide +kernel
theorem dJ1_indexOfChar_4cfef_22 : decode cJ1_indexOfChar_4cfef 22 = .ok (.iload 5, 2) := by decide +kernel
theorem dJ1_indexOfChar_4cfef_24 : decode cJ1_indexOfChar_4cfef 24 = .ok (.ireturn, 1) := by decide +kernel
theorem dJ1_indexOfChar_4cfef_25 : decode cJ1_indexOfChar_4cfef 25 = .ok (.iinc 5 1, 3) := by decide +kernel
theorem dJ1_indexOfChar_4cfef_28 : decode cJ1_indexOfChar_4cfef 28 = .ok (.goto (-21), 3) := by decide +kernel
theorem dJ1_indexOfChar_4cfef_31 : decode cJ1_indexOfChar_4cfef 31 = .ok (.iconst (-1), 1) := by decide +kernel
theorem dJ1_indexOfChar_4cfef_32 : decode cJ1_indexOfChar_4cfef 32 = .ok (.ireturn, 1) := by decide +kernel
theorem dJ2_getChar_3b067_0 : decode cJ2_getChar_3b067 0 = .ok (.getstatic 44, 3) := by decide +kernel
theorem dJ2_getChar_3b067_3 : decode cJ2_getChar_3b067 3 = .ok (.ifCond .ne 25, 3) := by decide +kernel
theorem dJ2_getChar_3b067_6 : decode cJ2_getChar_3b067 6 = .ok (.iload_n 1, 1) := by decide +kernel
theorem dJ2_getChar_3b067_7 : decode cJ2_getChar_3b067 7 = .ok (.ifCond .lt 11, 3) := by decide +kernel
theorem dJ2_getChar_3b067_10 : decode cJ2_getChar_3b067 10 = .ok (.iload_n 1, 1) := by decide +kernel
theorem dJ2_getChar_3b067_11 : decode cJ2_getChar_3b067 11 = .ok (.aload_n 0, 1) := by decide +kernel
theorem dJ2_getChar_3b067_12 : decode cJ2_getChar_3b067 12 = .ok (.invokestatic 48, 3) := by decide +kernel
theorem dJ2_getChar_3b067_15 : decode cJ2_getChar_3b067 15 = .ok (.if_icmp .lt 13, 3) := by decide +kernel
theorem dJ2_getChar_3b067_18 : decode cJ2_getChar_3b067 18 = .ok (.new 52, 3) := by decide +kernel
theorem dJ2_getChar_3b067_21 : decode cJ2_getChar_3b067 21 = .ok (.dup, 1) := by decide +kernel
theorem dJ2_getChar_3b067_22 : decode cJ2_getChar_3b067 22 = .ok (.ldc 54, 2) := by decide +kernel
theorem dJ2_getChar_3b067_24 : decode cJ2_getChar_3b067 24 = .ok (.invokespecial 56, 3) := by decide +kernel
theorem dJ2_getChar_3b067_27 : decode cJ2_getChar_3b067 27 = .ok (.athrow, 1) := by decide +kernel
theorem dJ2_getChar_3b067_28 : decode cJ2_getChar_3b067 28 = .ok (.iload_n 1, 1) := by decide +kernel
theorem dJ2_getChar_3b067_29 : decode cJ2_getChar_3b067 29 = .ok (.iconst 1, 1) := by decide +kernel
theorem dJ2_getChar_3b067_30 : decode cJ2_getChar_3b067 30 = .ok (.ishl, 1) := by decide +kernel
theorem dJ2_getChar_3b067_31 : decode cJ2_getChar_3b067 31 = .ok (.istore_n 1, 1) := by decide +kernel
theorem dJ2_getChar_3b067_32 : decode cJ2_getChar_3b067 32 = .ok (.aload_n 0, 1) := by decide +kernel
theorem dJ2_getChar_3b067_33 : decode cJ2_getChar_3b067 33 = .ok (.iload_n 1, 1) := by decide +kernel
theorem dJ2_getChar_3b067_34 : decode cJ2_getChar_3b067 34 = .ok (.iinc 1 1, 3) := by decide +kernel
theorem dJ2_getChar_3b067_37 : decode cJ2_getChar_3b067 37 = .ok (.baload, 1) := by decide +kernel
theorem dJ2_getChar_3b067_38 : decode cJ2_getChar_3b067 38 = .ok (.sipush 255, 3) := by decide +kernel
theorem dJ2_getChar_3b067_41 : decode cJ2_getChar_3b067 41 = .ok (.iand, 1) := by decide +kernel
theorem dJ2_getChar_3b067_42 : decode cJ2_getChar_3b067 42 = .ok (.getstatic 59, 3) := by decide +kernel
theorem dJ2_getChar_3b067_45 : decode cJ2_getChar_3b067 45 = .ok (.ishl, 1) := by decide +kernel
theorem dJ2_getChar_3b067_46 : decode cJ2_getChar_3b067 46 = .ok (.aload_n 0, 1) := by decide +kernel
theorem dJ2_getChar_3b067_47 : decode cJ2_getChar_3b067 47 = .ok (.iload_n 1, 1) := by decide +kernel
theorem dJ2_getChar_3b067_48 : decode cJ2_getChar_3b067 48 = .ok (.baload, 1) := by decide +kernel
theorem dJ2_getChar_3b067_49 : decode cJ2_getChar_3b067 49 = .ok (.sipush 255, 3) := by decide +kernel
theorem dJ2_getChar_3b067_52 : decode cJ2_getChar_3b067 52 = .ok (.iand, 1) := by decide +kernel
theorem dJ2_getChar_3b067_53 : decode cJ2_getChar_3b067 53 = .ok (.getstatic 63, 3) := by decide +kernel
theorem dJ2_getChar_3b067_56 : decode cJ2_getChar_3b067 56 = .ok (.ishl, 1) := by decide +kernel
theorem dJ2_getChar_3b067_57 : decode cJ2_getChar_3b067 57 = .ok (.ior, 1) := by decide +kernel
theorem dJ2_getChar_3b067_58 : decode cJ2_getChar_3b067 58 = .ok (.i2c, 1) := by decide +kernel
theorem dJ2_getChar_3b067_59 : decode cJ2_getChar_3b067 59 = .ok (.ireturn, 1) := by decide +kernel
theorem dJ2_length_9d52b_0 : decode cJ2_length_9d52b 0 = .ok (.aload_n 0, 1) := by decide +kernel
theorem dJ2_length_9d52b_1 : decode cJ2_length_9d52b 1 = .ok (.arraylength, 1) := by decide +kernel
theorem dJ2_length_9d52b_2 : decode cJ2_length_9d52b 2 = .ok (.iconst 1, 1) := by decide +kernel
theorem dJ2_length_9d52b_3 : decode cJ2_length_9d52b 3 = .ok (.ishr, 1) := by decide +kernel
theorem dJ2_length_9d52b_4 : decode cJ2_length_9d52b 4 = .ok (.ireturn, 1) := by decide +kernel
theorem dJ2_indexOf_4cfef_0 : decode cJ2_indexOf_4cfef 0 = .ok (.iload_n 2, 1) := by decide +kernel
theorem dJ2_indexOf_4cfef_1 : decode cJ2_indexOf_4cfef 1 = .ok (.iconst 0, 1) := by decide +kernel
theorem dJ2_indexOf_4cfef_2 : decode cJ2_indexOf_4cfef 2 = .ok (.invokestatic 224, 3) := by decide +kernel
theorem dJ2_indexOf_4cfef_5 : decode cJ2_indexOf_4cfef 5 = .ok (.istore_n 2, 1) := by decide +kernel
theorem dJ2_indexOf_4cfef_6 : decode cJ2_indexOf_4cfef 6 = .ok (.iload_n 3, 1) := by decide +kernel
theorem dJ2_indexOf_4cfef_7 : decode cJ2_indexOf_4cfef 7 = .ok (.aload_n 0, 1) := by decide +kernel
theorem dJ2_indexOf_4cfef_8 : decode cJ2_indexOf_4cfef 8 = .ok (.arraylength, 1) := by decide +kernel
theorem dJ2_indexOf_4cfef_9 : decode cJ2_indexOf_4cfef 9 = .ok (.iconst 1, 1) := by decide +kernel
theorem dJ2_indexOf_4cfef_10 : decode cJ2_indexOf_4cfef 10 = .ok (.ishr, 1) := by decide +kernel
theorem dJ2_indexOf_4cfef_11 : decode cJ2_indexOf_4cfef 11 = .ok (.invokestatic 183, 3) := by decide +kernel
theorem dJ2_indexOf_4cfef_14 : decode cJ2_indexOf_4cfef 14 = .ok (.istore_n 3, 1) := by decide +kernel
theorem dJ2_indexOf_4cfef_15 : decode cJ2_indexOf_4cfef 15 = .ok (.iload_n 2, 1) := by decide +kernel
theorem dJ2_indexOf_4cfef_16 : decode cJ2_indexOf_4cfef 16 = .ok (.iload_n 3, 1) := by decide +kernel
theorem dJ2_indexOf_4cfef_17 : decode cJ2_indexOf_4cfef 17 = .ok (.if_icmp .lt 5, 3) := by decide +kernel
theorem dJ2_indexOf_4cfef_20 : decode cJ2_indexOf_4cfef 20 = .ok (.iconst (-1), 1) := by decide +kernel
theorem dJ2_indexOf_4cfef_21 : decode cJ2_indexOf_4cfef 21 = .ok (.ireturn, 1) := by decide +kernel
theorem dJ2_indexOf_4cfef_22 : decode cJ2_indexOf_4cfef 22 = .ok (.iload_n 1, 1) := by decide +kernel
theorem dJ2_indexOf_4cfef_23 : decode cJ2_indexOf_4cfef 23 = .ok (.ldc 227, 2) := by decide +kernel
theorem dJ2_indexOf_4cfef_25 : decode cJ2_indexOf_4cfef 25 = .ok (.if_icmp .ge 11, 3) := by decide +kernel
theorem dJ2_indexOf_4cfef_28 : decode cJ2_indexOf_4cfef 28 = .ok (.aload_n 0, 1) := by decide +kernel
theorem dJ2_indexOf_4cfef_29 : decode cJ2_indexOf_4cfef 29 = .ok (.iload_n 1, 1) := by decide +kernel
theorem dJ2_indexOf_4cfef_30 : decode cJ2_indexOf_4cfef 30 = .ok (.iload_n 2, 1) := by decide +kernel
theorem dJ2_indexOf_4cfef_31 : decode cJ2_indexOf_4cfef 31 = .ok (.iload_n 3, 1) := by decide +kernel
theorem dJ2_indexOf_4cfef_32 : decode cJ2_indexOf_4cfef 32 = .ok (.invokestatic 228, 3) := by decide +kernel
theorem dJ2_indexOf_4cfef_35 : decode cJ2_indexOf_4cfef 35 = .ok (.ireturn, 1) := by decide +kernel
theorem dJ2_indexOf_4cfef_36 : decode cJ2_indexOf_4cfef 36 = .ok (.aload_n 0, 1) := by decide +kernel
theorem dJ2_indexOf_4cfef_37 : decode cJ2_indexOf_4cfef 37 = .ok (.iload_n 1, 1) := by decide +kernel
theorem dJ2_indexOf_4cfef_38 : decode cJ2_indexOf_4cfef 38 = .ok (.iload_n 2, 1) := by decide +kernel
theorem dJ2_indexOf_4cfef_39 : decode cJ2_indexOf_4cfef 39 = .ok (.iload_n 3, 1) := by decide +kernel
theorem dJ2_indexOf_4cfef_40 : decode cJ2_indexOf_4cfef 40 = .ok (.invokestatic 232, 3) := by decide +kernel
theorem dJ2_indexOf_4cfef_43 : decode cJ2_indexOf_4cfef 43 = .ok (.ireturn, 1) := by decide +kernel
theorem dJ2_indexOfChar_4cfef_0 : decode cJ2_indexOfChar_4cfef 0 = .ok (.iload_n 2, 1) := by decide +kernel
theorem dJ2_indexOfChar_4cfef_1 : decode cJ2_indexOfChar_4cfef 1 = .ok (.iload_n 3, 1) := by decide +kernel
theorem dJ2_indexOfChar_4cfef_2 : decode cJ2_indexOfChar_4cfef 2 = .ok (.aload_n 0, 1) := by decide +kernel
theorem dJ2_indexOfChar_4cfef_3 : decode cJ2_indexOfChar_4cfef 3 = .ok (.invokestatic 96, 3) := by decide +kernel
theorem dJ2_indexOfChar_4cfef_6 : decode cJ2_indexOfChar_4cfef 6 = .ok (.aload_n 0, 1) := by decide +kernel
theorem dJ2_indexOfChar_4cfef_7 : decode cJ2_indexOfChar_4cfef 7 = .ok (.iload_n 1, 1) := by decide +kernel
theorem dJ2_indexOfChar_4cfef_8 : decode cJ2_indexOfChar_4cfef 8 = .ok (.iload_n 2, 1) := by decide +kernel
theorem dJ2_indexOfChar_4cfef_9 : decode cJ2_indexOfChar_4cfef 9 = .ok (.iload_n 3, 1) := by decide +kernel
theorem dJ2_indexOfChar_4cfef_10 : decode cJ2_indexOfChar_4cfef 10 = .ok (.invokestatic 244, 3) := by decide +kernel
theorem dJ2_indexOfChar_4cfef_13 : decode cJ2_indexOfChar_4cfef 13 = .ok (.ireturn, 1) := by decide +kernel
theorem dJ2_indexOfCharUnsafe_4cfef_0 : decode cJ2_indexOfCharUnsafe_4cfef 0 = .ok (.iload_n 2, 1) := by decide +kernel
theorem dJ2_indexOfCharUnsafe_4cfef_1 : decode cJ2_indexOfCharUnsafe_4cfef 1 = .ok (.istore 4, 2) := by decide +kernel
theorem dJ2_indexOfCharUnsafe_4cfef_3 : decode cJ2_indexOfCharUnsafe_4cfef 3 = .ok (.iload 4, 2) := by decide +kernel
theorem dJ2_indexOfCharUnsafe_4cfef_5 : decode cJ2_indexOfCharUnsafe_4cfef 5 = .ok (.iload_n 3, 1) := by decide +kernel
theorem dJ2_indexOfCharUnsafe_4cfef_6 : decode cJ2_indexOfCharUnsafe_4cfef 6 = .ok (.if_icmp .ge 22, 3) := by decide +kernel
theorem dJ2_indexOfCharUnsafe_4cfef_9 : decode cJ2_indexOfCharUnsafe_4cfef 9 = .ok (.aload_n 0, 1) := by decide +kernel
theorem dJ2_indexOfCharUnsafe_4cfef_10 : decode cJ2_indexOfCharUnsafe_4cfef 10 = .ok (.iload 4, 2) := by decide +kernel
theorem dJ2_indexOfCharUnsafe_4cfef_12 : decode cJ2_indexOfCharUnsafe_4cfef 12 = .ok (.invokestatic 71, 3) := by decide +kernel
theorem dJ2_indexOfCharUnsafe_4cfef_15 : decode cJ2_indexOfCharUnsafe_4cfef 15 = .ok (.iload_n 1, 1) := by decide +kernel
theorem dJ2_indexOfCharUnsafe_4cfef_16 : decode cJ2_indexOfCharUnsafe_4cfef 16 = .ok (.if_icmp .ne 6, 3) := by decide +kernel
theorem dJ2_indexOfCharUnsafe_4cfef_19 : decode cJ2_indexOfCharUnsafe_4cfef 19 = .ok (.iload 4, 2) := by decide +kernel
theorem dJ2_indexOfCharUnsafe_4cfef_21 : decode cJ2_indexOfCharUnsafe_4cfef 21 = .ok (.ireturn, 1) := by decide +kernel
theorem dJ2_indexOfCharUnsafe_4cfef_22 : decode cJ2_indexOfCharUnsafe_4cfef 22 = .ok (.iinc 4 1, 3) := by decide +kernel
theorem dJ2_indexOfCharUnsafe_4cfef_25 : decode cJ2_indexOfCharUnsafe_4cfef 25 = .ok (.goto (-22), 3) := by decide +kernel
theorem dJ2_indexOfCharUnsafe_4cfef_28 : decode cJ2_indexOfCharUnsafe_4cfef 28 = .ok (.iconst (-1), 1) := by decide +kernel
theorem dJ2_indexOfCharUnsafe_4cfef_29 : decode cJ2_indexOfCharUnsafe_4cfef 29 = .ok (.ireturn, 1) := by decide +kernel
theorem dJ2_indexOfSupplementary_4cfef_0 : decode cJ2_indexOfSupplementary_4cfef 0 = .ok (.iload_n 1, 1) := by decide +kernel
theorem dJ2_indexOfSupplementary_4cfef_1 : decode cJ2_indexOfSupplementary_4cfef 1 = .ok (.invokestatic 164, 3) := by decide +kernel
theorem dJ2_indexOfSupplementary_4cfef_4 : decode cJ2_indexOfSupplementary_4cfef 4 = .ok (.ifCond .eq 65, 3) := by decide +kernel
theorem dJ2_indexOfSupplementary_4cfef_7 : decode cJ2_indexOfSupplementary_4cfef 7 = .ok (.iload_n 1, 1) := by decide +kernel
theorem dJ2_indexOfSupplementary_4cfef_8 : decode cJ2_indexOfSupplementary_4cfef 8 = .ok (.invokestatic 157, 3) := by decide +kernel
theorem dJ2_indexOfSupplementary_4cfef_11 : decode cJ2_indexOfSupplementary_4cfef 11 = .ok (.istore 4, 2) := by decide +kernel
theorem dJ2_indexOfSupplementary_4cfef_13 : decode cJ2_indexOfSupplementary_4cfef 13 = .ok (.iload_n 1, 1) := by decide +kernel
theorem dJ2_indexOfSupplementary_4cfef_14 : decode cJ2_indexOfSupplementary_4cfef 14 = .ok (.invokestatic 161, 3) := by decide +kernel
theorem dJ2_indexOfSupplementary_4cfef_17 : decode cJ2_indexOfSupplementary_4cfef 17 = .ok (.istore 5, 2) := by decide +kernel
theorem dJ2_indexOfSupplementary_4cfef_19 : decode cJ2_indexOfSupplementary_4cfef 19 = .ok (.iload_n 2, 1) := by decide +kernel
theorem dJ2_indexOfSupplementary_4cfef_20 : decode cJ2_indexOfSupplementary_4cfef 20 = .ok (.iload_n 3, 1) := by decide +kernel
theorem dJ2_indexOfSupplementary_4cfef_21 : decode cJ2_indexOfSupplementary_4cfef 21 = .ok (.aload_n 0, 1) := by decide +kernel
theorem dJ2_indexOfSupplementary_4cfef_22 : decode cJ2_indexOfSupplementary_4cfef 22 = .ok (.invokestatic 96, 3) := by decide +kernel
theorem dJ2_indexOfSupplementary_4cfef_25 : decode cJ2_indexOfSupplementary_4cfef 25 = .ok (.iload_n 2, 1) := by decide +kernel
theorem dJ2_indexOfSupplementary_4cfef_26 : decode cJ2_indexOfSupplementary_4cfef 26 = .ok (.istore 6, 2) := by decide +kernel
theorem dJ2_indexOfSupplementary_4cfef_28 : decode cJ2_indexOfSupplementary_4cfef 28 = .ok (.iload 6, 2) := by decide +kernel
theorem dJ2_indexOfSupplementary_4cfef_30 : decode cJ2_indexOfSupplementary_4cfef 30 = .ok (.iload_n 3, 1) := by decide +kernel
theorem dJ2_indexOfSupplementary_4cfef_31 : decode cJ2_indexOfSupplementary_4cfef 31 = .ok (.iconst 1, 1) := by decide +kernel
theorem dJ2_indexOfSupplementary_4cfef_32 : decode cJ2_indexOfSupplementary_4cfef 32 = .ok (.isub, 1) := by decide +kernel
theorem dJ2_indexOfSupplementary_4cfef_33 : decode cJ2_indexOfSupplementary_4cfef 33 = .ok (.if_icmp .ge 36, 3) := by decide +kernel
theorem dJ2_indexOfSupplementary_4cfef_36 : decode cJ2_indexOfSupplementary_4cfef 36 = .ok (.aload_n 0, 1) := by decide +kernel
theorem dJ2_indexOfSupplementary_4cfef_37 : decode cJ2_indexOfSupplementary_4cfef 37 = .ok (.iload 6, 2) := by decide +kernel
theorem dJ2_indexOfSupplementary_4cfef_39 : decode cJ2_indexOfSupplementary_4cfef 39 = .ok (.invokestatic 71, 3) := by decide +kernel
theorem dJ2_indexOfSupplementary_4cfef_42 : decode cJ2_indexOfSupplementary_4cfef 42 = .ok (.iload 4, 2) := by decide +kernel
theorem dJ2_indexOfSupplementary_4cfef_44 : decode cJ2_indexOfSupplementary_4cfef 44 = .ok (.if_icmp .ne 19, 3) := by decide +kernel
theorem dJ2_indexOfSupplementary_4cfef_47 : decode cJ2_indexOfSupplementary_4cfef 47 = .ok (.aload_n 0, 1) := by decide +kernel
theorem dJ2_indexOfSupplementary_4cfef_48 : decode cJ2_indexOfSupplementary_4cfef 48 = .ok (.iload 6, 2) := by decide +kernel
theorem dJ2_indexOfSupplementary_4cfef_50 : decode cJ2_indexOfSupplementary_4cfef 50 = .ok (.iconst 1, 1) := by decide +kernel
theorem dJ2_indexOfSupplementary_4cfef_51 : decode cJ2_indexOfSupplementary_4cfef 51 = .ok (.iadd, 1) := by decide +kernel
theorem dJ2_indexOfSupplementary_4cfef_52 : decode cJ2_indexOfSupplementary_4cfef 52 = .ok (.invokestatic 71, 3) := by decide +kernel
theorem dJ2_indexOfSupplementary_4cfef_55 : decode cJ2_indexOfSupplementary_4cfef 55 = .ok (.iload 5, 2) := by decide +kernel
theorem dJ2_indexOfSupplementary_4cfef_57 : decode cJ2_indexOfSupplementary_4cfef 57 = .ok (.if_icmp .ne 6, 3) := by decide +kernel
theorem dJ2_indexOfSupplementary_4cfef_60 : decode cJ2_indexOfSupplementary_4cfef 60 = .ok (.iload 6, 2) := by decide +kernel
theorem dJ2_indexOfSupplementary_4cfef_62 : decode cJ2_indexOfSupplementary_4cfef 62 = .ok (.ireturn, 1) := by decide +kernel
theorem dJ2_indexOfSupplementary_4cfef_63 : decode cJ2_indexOfSupplementary_4cfef 63 = .ok (.iinc 6 1, 3) := by decide +kernel
theorem dJ2_indexOfSupplementary_4cfef_66 : decode cJ2_indexOfSupplementary_4cfef 66 = .ok (.goto (-38), 3) := by decide +kernel
theorem dJ2_indexOfSupplementary_4cfef_69 : decode cJ2_indexOfSupplementary_4cfef 69 = .ok (.iconst (-1), 1) := by decide +kernel
theorem dJ2_indexOfSupplementary_4cfef_70 : decode cJ2_indexOfSupplementary_4cfef 70 = .ok (.ireturn, 1) := by decide +kernel
theorem dJ2_charAt_3b067_0 : decode cJ2_charAt_3b067 0 = .ok (.iload_n 1, 1) := by decide +kernel
theorem dJ2_charAt_3b067_1 : decode cJ2_charAt_3b067 1 = .ok (.aload_n 0, 1) := by decide +kernel
theorem dJ2_charAt_3b067_2 : decode cJ2_charAt_3b067 2 = .ok (.invokestatic 67, 3) := by decide +kernel
theorem dJ2_charAt_3b067_5 : decode cJ2_charAt_3b067 5 = .ok (.aload_n 0, 1) := by decide +kernel
theorem dJ2_charAt_3b067_6 : decode cJ2_charAt_3b067 6 = .ok (.iload_n 1, 1) := by decide +kernel
theorem dJ2_charAt_3b067_7 : decode cJ2_charAt_3b067 7 = .ok (.invokestatic 71, 3) := by decide +kernel
theorem dJ2_charAt_3b067_10 : decode cJ2_charAt_3b067 10 = .ok (.ireturn, 1) := by decide +kernel
theorem dJ2_checkIndex_2214a_0 : decode cJ2_checkIndex_2214a 0 = .ok (.iload_n 0, 1) := by decide +kernel
theorem dJ2_checkIndex_2214a_1 : decode cJ2_checkIndex_2214a 1 = .ok (.aload_n 1, 1) := by decide +kernel
theorem dJ2_checkIndex_2214a_2 : decode cJ2_checkIndex_2214a 2 = .ok (.invokestatic 48, 3) := by decide +kernel
theorem dJ2_checkIndex_2214a_5 : decode cJ2_checkIndex_2214a 5 = .ok (.invokestatic 414, 3) := by decide +kernel
theorem dJ2_checkIndex_2214a_8 : decode cJ2_checkIndex_2214a 8 = .ok (.return_, 1) := by decide +kernel
theorem dJ2_checkBoundsBeginEnd_d044e_0 : decode cJ2_checkBoundsBeginEnd_d044e 0 = .ok (.iload_n 0, 1) := by decide +kernel
theorem dJ2_checkBoundsBeginEnd_d044e_1 : decode cJ2_checkBoundsBeginEnd_d044e 1 = .ok (.iload_n 1, 1) := by decide +kernel
theorem dJ2_checkBoundsBeginEnd_d044e_2 : decode cJ2_checkBoundsBeginEnd_d044e 2 = .ok (.aload_n 2, 1) := by decide +kernel
theorem dJ2_checkBoundsBeginEnd_d044e_3 : decode cJ2_checkBoundsBeginEnd_d044e 3 = .ok (.invokestatic 48, 3) := by decide +kernel
theorem dJ2_checkBoundsBeginEnd_d044e_6 : decode cJ2_checkBoundsBeginEnd_d044e 6 = .ok (.invokestatic 241, 3) := by decide +kernel
theorem dJ2_checkBoundsBeginEnd_d044e_9 : decode cJ2_checkBoundsBeginEnd_d044e 9 = .ok (.return_, 1) := by decide +kernel
theorem dJ3_checkIndex_8e157_0 : decode cJ3_checkIndex_8e157 0 = .ok (.iload_n 0, 1) := by decide +kernel
theorem dJ3_checkIndex_8e157_1 : decode cJ3_checkIndex_8e157 1 = .ok (.ifCond .lt 8, 3) := by decide +kernel
theorem dJ3_checkIndex_8e157_4 : decode cJ3_checkIndex_8e157 4 = .ok (.iload_n 0, 1) := by decide +kernel
theorem dJ3_checkIndex_8e157_5 : decode cJ3_checkIndex_8e157 5 = .ok (.iload_n 1, 1) := by decide +kernel
theorem dJ3_checkIndex_8e157_6 : decode cJ3_checkIndex_8e157 6 = .ok (.if_icmp .lt 10, 3) := by decide +kernel
theorem dJ3_checkIndex_8e157_9 : decode cJ3_checkIndex_8e157 9 = .ok (.aload_n 2, 1) := by decide +kernel
theorem dJ3_checkIndex_8e157_10 : decode cJ3_checkIndex_8e157 10 = .ok (.iload_n 0, 1) := by decide +kernel
theorem dJ3_checkIndex_8e157_11 : decode cJ3_checkIndex_8e157 11 = .ok (.iload_n 1, 1) := by decide +kernel
theorem dJ3_checkIndex_8e157_12 : decode cJ3_checkIndex_8e157 12 = .ok (.invokestatic 95, 3) := by decide +kernel
theorem dJ3_checkIndex_8e157_15 : decode cJ3_checkIndex_8e157 15 = .ok (.athrow, 1) := by decide +kernel
theorem dJ3_checkIndex_8e157_16 : decode cJ3_checkIndex_8e157 16 = .ok (.iload_n 0, 1) := by decide +kernel
theorem dJ3_checkIndex_8e157_17 : decode cJ3_checkIndex_8e157 17 = .ok (.ireturn, 1) := by decide +kernel
theorem dJ3_checkFromToIndex_8c36e_0 : decode cJ3_checkFromToIndex_8c36e 0 = .ok (.iload_n 0, 1) := by decide +kernel
theorem dJ3_checkFromToIndex_8c36e_1 : decode cJ3_checkFromToIndex_8c36e 1 = .ok (.ifCond .lt 13, 3) := by decide +kernel
theorem dJ3_checkFromToIndex_8c36e_4 : decode cJ3_checkFromToIndex_8c36e 4 = .ok (.iload_n 0, 1) := by decide +kernel
theorem dJ3_checkFromToIndex_8c36e_5 : decode cJ3_checkFromToIndex_8c36e 5 = .ok (.iload_n 1, 1) := by decide +kernel
theorem dJ3_checkFromToIndex_8c36e_6 : decode cJ3_checkFromToIndex_8c36e 6 = .ok (.if_icmp .gt 8, 3) := by decide +kernel
theorem dJ3_checkFromToIndex_8c36e_9 : decode cJ3_checkFromToIndex_8c36e 9 = .ok (.iload_n 1, 1) := by decide +kernel
theorem dJ3_checkFromToIndex_8c36e_10 : decode cJ3_checkFromToIndex_8c36e 10 = .ok (.iload_n 2, 1) := by decide +kernel
theorem dJ3_checkFromToIndex_8c36e_11 : decode cJ3_checkFromToIndex_8c36e 11 = .ok (.if_icmp .le 11, 3) := by decide +kernel
theorem dJ3_checkFromToIndex_8c36e_14 : decode cJ3_checkFromToIndex_8c36e 14 = .ok (.aload_n 3, 1) := by decide +kernel
theorem dJ3_checkFromToIndex_8c36e_15 : decode cJ3_checkFromToIndex_8c36e 15 = .ok (.iload_n 0, 1) := by decide +kernel
theorem dJ3_checkFromToIndex_8c36e_16 : decode cJ3_checkFromToIndex_8c36e 16 = .ok (.iload_n 1, 1) := by decide +kernel
theorem dJ3_checkFromToIndex_8c36e_17 : decode cJ3_checkFromToIndex_8c36e 17 = .ok (.iload_n 2, 1) := by decide +kernel
theorem dJ3_checkFromToIndex_8c36e_18 : decode cJ3_checkFromToIndex_8c36e 18 = .ok (.invokestatic 99, 3) := by decide +kernel
theorem dJ3_checkFromToIndex_8c36e_21 : decode cJ3_checkFromToIndex_8c36e 21 = .ok (.athrow, 1) := by decide +kernel
theorem dJ3_checkFromToIndex_8c36e_22 : decode cJ3_checkFromToIndex_8c36e 22 = .ok (.iload_n 0, 1) := by decide +kernel
theorem dJ3_checkFromToIndex_8c36e_23 : decode cJ3_checkFromToIndex_8c36e 23 = .ok (.ireturn, 1) := by decide +kernel
