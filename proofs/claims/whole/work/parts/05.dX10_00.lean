theorem dX10_init_0 : decode cX10_init 0 = .ok (.aload_n 0, 1) := by decide +kernel
theorem dX10_init_1 : decode cX10_init 1 = .ok (.invokespecial 3, 3) := by decide +kernel
theorem dX10_init_4 : decode cX10_init 4 = .ok (.aload_n 0, 1) := by decide +kernel
theorem dX10_init_5 : decode cX10_init 5 = .ok (.aload_n 1, 1) := by decide +kernel
theorem dX10_init_6 : decode cX10_init 6 = .ok (.putfield 9, 3) := by decide +kernel
theorem dX10_init_9 : decode cX10_init 9 = .ok (.aload_n 0, 1) := by decide +kernel
theorem dX10_init_10 : decode cX10_init 10 = .ok (.aload_n 2, 1) := by decide +kernel
theorem dX10_init_11 : decode cX10_init 11 = .ok (.putfield 15, 3) := by decide +kernel
theorem dX10_init_14 : decode cX10_init 14 = .ok (.aload_n 0, 1) := by decide +kernel
theorem dX10_init_15 : decode cX10_init 15 = .ok (.aload_n 3, 1) := by decide +kernel
theorem dX10_init_16 : decode cX10_init 16 = .ok (.putfield 18, 3) := by decide +kernel
theorem dX10_init_19 : decode cX10_init 19 = .ok (.aload_n 0, 1) := by decide +kernel
theorem dX10_init_20 : decode cX10_init 20 = .ok (.new 22, 3) := by decide +kernel
theorem dX10_init_23 : decode cX10_init 23 = .ok (.dup, 1) := by decide +kernel
theorem dX10_init_24 : decode cX10_init 24 = .ok (.bipush 22, 2) := by decide +kernel
theorem dX10_init_26 : decode cX10_init 26 = .ok (.invokespecial 24, 3) := by decide +kernel
theorem dX10_init_29 : decode cX10_init 29 = .ok (.putfield 27, 3) := by decide +kernel
theorem dX10_init_32 : decode cX10_init 32 = .ok (.aload_n 0, 1) := by decide +kernel
theorem dX10_init_33 : decode cX10_init 33 = .ok (.iconst 0, 1) := by decide +kernel
theorem dX10_init_34 : decode cX10_init 34 = .ok (.putfield 30, 3) := by decide +kernel
theorem dX10_init_37 : decode cX10_init 37 = .ok (.aload_n 0, 1) := by decide +kernel
theorem dX10_init_38 : decode cX10_init 38 = .ok (.bipush 111, 2) := by decide +kernel
theorem dX10_init_40 : decode cX10_init 40 = .ok (.putfield 34, 3) := by decide +kernel
theorem dX10_init_43 : decode cX10_init 43 = .ok (.aload_n 0, 1) := by decide +kernel
theorem dX10_init_44 : decode cX10_init 44 = .ok (.iconst 1, 1) := by decide +kernel
theorem dX10_init_45 : decode cX10_init 45 = .ok (.putfield 38, 3) := by decide +kernel
theorem dX10_init_48 : decode cX10_init 48 = .ok (.return_, 1) := by decide +kernel
theorem dX10_dump_0 : decode cX10_dump 0 = .ok (.aload_n 0, 1) := by decide +kernel
theorem dX10_dump_1 : decode cX10_dump 1 = .ok (.iload_n 1, 1) := by decide +kernel
theorem dX10_dump_2 : decode cX10_dump 2 = .ok (.putfield 30, 3) := by decide +kernel
theorem dX10_dump_5 : decode cX10_dump 5 = .ok (.aload_n 0, 1) := by decide +kernel
theorem dX10_dump_6 : decode cX10_dump 6 = .ok (.iload_n 2, 1) := by decide +kernel
theorem dX10_dump_7 : decode cX10_dump 7 = .ok (.putfield 34, 3) := by decide +kernel
theorem dX10_dump_10 : decode cX10_dump 10 = .ok (.aload_n 0, 1) := by decide +kernel
theorem dX10_dump_11 : decode cX10_dump 11 = .ok (.iload_n 3, 1) := by decide +kernel
theorem dX10_dump_12 : decode cX10_dump 12 = .ok (.putfield 38, 3) := by decide +kernel
theorem dX10_dump_15 : decode cX10_dump 15 = .ok (.iconst 0, 1) := by decide +kernel
theorem dX10_dump_16 : decode cX10_dump 16 = .ok (.istore 5, 2) := by decide +kernel
theorem dX10_dump_18 : decode cX10_dump 18 = .ok (.iconst 0, 1) := by decide +kernel
theorem dX10_dump_19 : decode cX10_dump 19 = .ok (.istore 6, 2) := by decide +kernel
theorem dX10_dump_21 : decode cX10_dump 21 = .ok (.iload 6, 2) := by decide +kernel
theorem dX10_dump_23 : decode cX10_dump 23 = .ok (.aload_n 0, 1) := by decide +kernel
theorem dX10_dump_24 : decode cX10_dump 24 = .ok (.getfield 15, 3) := by decide +kernel
theorem dX10_dump_27 : decode cX10_dump 27 = .ok (.invokevirtual 41, 3) := by decide +kernel
theorem dX10_dump_30 : decode cX10_dump 30 = .ok (.if_icmp .ge 61, 3) := by decide +kernel
theorem dX10_dump_33 : decode cX10_dump 33 = .ok (.iload 4, 2) := by decide +kernel
theorem dX10_dump_35 : decode cX10_dump 35 = .ok (.ifCond .ne 12, 3) := by decide +kernel
theorem dX10_dump_38 : decode cX10_dump 38 = .ok (.aload_n 0, 1) := by decide +kernel
theorem dX10_dump_39 : decode cX10_dump 39 = .ok (.iload 6, 2) := by decide +kernel
theorem dX10_dump_41 : decode cX10_dump 41 = .ok (.invokevirtual 45, 3) := by decide +kernel
theorem dX10_dump_44 : decode cX10_dump 44 = .ok (.ifCond .ne 15, 3) := by decide +kernel
theorem dX10_dump_47 : decode cX10_dump 47 = .ok (.iconst 0, 1) := by decide +kernel
theorem dX10_dump_48 : decode cX10_dump 48 = .ok (.istore 5, 2) := by decide +kernel
theorem dX10_dump_50 : decode cX10_dump 50 = .ok (.aload_n 0, 1) := by decide +kernel
theorem dX10_dump_51 : decode cX10_dump 51 = .ok (.iload 6, 2) := by decide +kernel
theorem dX10_dump_53 : decode cX10_dump 53 = .ok (.invokevirtual 49, 3) := by decide +kernel
theorem dX10_dump_56 : decode cX10_dump 56 = .ok (.goto 29, 3) := by decide +kernel
theorem dX10_dump_59 : decode cX10_dump 59 = .ok (.iload 5, 2) := by decide +kernel
theorem dX10_dump_61 : decode cX10_dump 61 = .ok (.ifCond .ne 24, 3) := by decide +kernel
theorem dX10_dump_64 : decode cX10_dump 64 = .ok (.iconst 1, 1) := by decide +kernel
theorem dX10_dump_65 : decode cX10_dump 65 = .ok (.istore 5, 2) := by decide +kernel
theorem dX10_dump_67 : decode cX10_dump 67 = .ok (.aload_n 0, 1) := by decide +kernel
theorem dX10_dump_68 : decode cX10_dump 68 = .ok (.getfield 9, 3) := by decide +kernel
theorem dX10_dump_71 : decode cX10_dump 71 = .ok (.bipush 42, 2) := by decide +kernel
theorem dX10_dump_73 : decode cX10_dump 73 = .ok (.invokevirtual 52, 3) := by decide +kernel
theorem dX10_dump_76 : decode cX10_dump 76 = .ok (.aload_n 0, 1) := by decide +kernel
theorem dX10_dump_77 : decode cX10_dump 77 = .ok (.getfield 9, 3) := by decide +kernel
theorem dX10_dump_80 : decode cX10_dump 80 = .ok (.bipush 10, 2) := by decide +kernel
theorem dX10_dump_82 : decode cX10_dump 82 = .ok (.invokevirtual 52, 3) := by decide +kernel
theorem dX10_dump_85 : decode cX10_dump 85 = .ok (.iinc 6 16, 3) := by decide +kernel
theorem dX10_dump_88 : decode cX10_dump 88 = .ok (.goto (-67), 3) := by decide +kernel
theorem dX10_dump_91 : decode cX10_dump 91 = .ok (.aload_n 0, 1) := by decide +kernel
theorem dX10_dump_92 : decode cX10_dump 92 = .ok (.getfield 30, 3) := by decide +kernel
theorem dX10_dump_95 : decode cX10_dump 95 = .ok (.ifCond .eq 23, 3) := by decide +kernel
theorem dX10_dump_98 : decode cX10_dump 98 = .ok (.aload_n 0, 1) := by decide +kernel
theorem dX10_dump_99 : decode cX10_dump 99 = .ok (.aload_n 0, 1) := by decide +kernel
theorem dX10_dump_100 : decode cX10_dump 100 = .ok (.getfield 15, 3) := by decide +kernel
theorem dX10_dump_103 : decode cX10_dump 103 = .ok (.invokevirtual 41, 3) := by decide +kernel
theorem dX10_dump_106 : decode cX10_dump 106 = .ok (.invokevirtual 55, 3) := by decide +kernel
theorem dX10_dump_109 : decode cX10_dump 109 = .ok (.aload_n 0, 1) := by decide +kernel
theorem dX10_dump_110 : decode cX10_dump 110 = .ok (.getfield 9, 3) := by decide +kernel
theorem dX10_dump_113 : decode cX10_dump 113 = .ok (.bipush 10, 2) := by decide +kernel
theorem dX10_dump_115 : decode cX10_dump 115 = .ok (.invokevirtual 52, 3) := by decide +kernel
theorem dX10_dump_118 : decode cX10_dump 118 = .ok (.return_, 1) := by decide +kernel
theorem dX10_isLikeBefore_0 : decode cX10_isLikeBefore 0 = .ok (.iload_n 1, 1) := by decide +kernel
theorem dX10_isLikeBefore_1 : decode cX10_isLikeBefore 1 = .ok (.bipush 16, 2) := by decide +kernel
theorem dX10_isLikeBefore_3 : decode cX10_isLikeBefore 3 = .ok (.if_icmp .lt 17, 3) := by decide +kernel
theorem dX10_isLikeBefore_6 : decode cX10_isLikeBefore 6 = .ok (.iload_n 1, 1) := by decide +kernel
theorem dX10_isLikeBefore_7 : decode cX10_isLikeBefore 7 = .ok (.bipush 16, 2) := by decide +kernel
theorem dX10_isLikeBefore_9 : decode cX10_isLikeBefore 9 = .ok (.iadd, 1) := by decide +kernel
theorem dX10_isLikeBefore_10 : decode cX10_isLikeBefore 10 = .ok (.aload_n 0, 1) := by decide +kernel
theorem dX10_isLikeBefore_11 : decode cX10_isLikeBefore 11 = .ok (.getfield 15, 3) := by decide +kernel
theorem dX10_isLikeBefore_14 : decode cX10_isLikeBefore 14 = .ok (.invokevirtual 41, 3) := by decide +kernel
theorem dX10_isLikeBefore_17 : decode cX10_isLikeBefore 17 = .ok (.if_icmp .le 5, 3) := by decide +kernel
theorem dX10_isLikeBefore_20 : decode cX10_isLikeBefore 20 = .ok (.iconst 0, 1) := by decide +kernel
theorem dX10_isLikeBefore_21 : decode cX10_isLikeBefore 21 = .ok (.ireturn, 1) := by decide +kernel
theorem dX10_isLikeBefore_22 : decode cX10_isLikeBefore 22 = .ok (.iload_n 1, 1) := by decide +kernel
theorem dX10_isLikeBefore_23 : decode cX10_isLikeBefore 23 = .ok (.istore_n 2, 1) := by decide +kernel
theorem dX10_isLikeBefore_24 : decode cX10_isLikeBefore 24 = .ok (.iload_n 2, 1) := by decide +kernel
theorem dX10_isLikeBefore_25 : decode cX10_isLikeBefore 25 = .ok (.iload_n 1, 1) := by decide +kernel
theorem dX10_isLikeBefore_26 : decode cX10_isLikeBefore 26 = .ok (.bipush 16, 2) := by decide +kernel
theorem dX10_isLikeBefore_28 : decode cX10_isLikeBefore 28 = .ok (.iadd, 1) := by decide +kernel
theorem dX10_isLikeBefore_29 : decode cX10_isLikeBefore 29 = .ok (.if_icmp .ge 33, 3) := by decide +kernel
theorem dX10_isLikeBefore_32 : decode cX10_isLikeBefore 32 = .ok (.aload_n 0, 1) := by decide +kernel
theorem dX10_isLikeBefore_33 : decode cX10_isLikeBefore 33 = .ok (.getfield 15, 3) := by decide +kernel
theorem dX10_isLikeBefore_36 : decode cX10_isLikeBefore 36 = .ok (.iload_n 2, 1) := by decide +kernel
theorem dX10_isLikeBefore_37 : decode cX10_isLikeBefore 37 = .ok (.invokevirtual 58, 3) := by decide +kernel
theorem dX10_isLikeBefore_40 : decode cX10_isLikeBefore 40 = .ok (.aload_n 0, 1) := by decide +kernel
theorem dX10_isLikeBefore_41 : decode cX10_isLikeBefore 41 = .ok (.getfield 15, 3) := by decide +kernel
theorem dX10_isLikeBefore_44 : decode cX10_isLikeBefore 44 = .ok (.iload_n 2, 1) := by decide +kernel
theorem dX10_isLikeBefore_45 : decode cX10_isLikeBefore 45 = .ok (.bipush 16, 2) := by decide +kernel
theorem dX10_isLikeBefore_47 : decode cX10_isLikeBefore 47 = .ok (.isub, 1) := by decide +kernel
theorem dX10_isLikeBefore_48 : decode cX10_isLikeBefore 48 = .ok (.invokevirtual 58, 3) := by decide +kernel
theorem dX10_isLikeBefore_51 : decode cX10_isLikeBefore 51 = .ok (.if_icmp .eq 5, 3) := by decide +kernel
theorem dX10_isLikeBefore_54 : decode cX10_isLikeBefore 54 = .ok (.iconst 0, 1) := by decide +kernel
theorem dX10_isLikeBefore_55 : decode cX10_isLikeBefore 55 = .ok (.ireturn, 1) := by decide +kernel
theorem dX10_isLikeBefore_56 : decode cX10_isLikeBefore 56 = .ok (.iinc 2 1, 3) := by decide +kernel
theorem dX10_isLikeBefore_59 : decode cX10_isLikeBefore 59 = .ok (.goto (-35), 3) := by decide +kernel
theorem dX10_isLikeBefore_62 : decode cX10_isLikeBefore 62 = .ok (.iconst 1, 1) := by decide +kernel
theorem dX10_isLikeBefore_63 : decode cX10_isLikeBefore 63 = .ok (.ireturn, 1) := by decide +kernel
theorem dX10_writeLine_0 : decode cX10_writeLine 0 = .ok (.iload_n 1, 1) := by decide +kernel
theorem dX10_writeLine_1 : decode cX10_writeLine 1 = .ok (.bipush 16, 2) := by decide +kernel
theorem dX10_writeLine_3 : decode cX10_writeLine 3 = .ok (.iadd, 1) := by decide +kernel
theorem dX10_writeLine_4 : decode cX10_writeLine 4 = .ok (.aload_n 0, 1) := by decide +kernel
theorem dX10_writeLine_5 : decode cX10_writeLine 5 = .ok (.getfield 15, 3) := by decide +kernel
theorem dX10_writeLine_8 : decode cX10_writeLine 8 = .ok (.invokevirtual 41, 3) := by decide +kernel
theorem dX10_writeLine_11 : decode cX10_writeLine 11 = .ok (.invokestatic 62, 3) := by decide +kernel
theorem dX10_writeLine_14 : decode cX10_writeLine 14 = .ok (.istore_n 2, 1) := by decide +kernel
theorem dX10_writeLine_15 : decode cX10_writeLine 15 = .ok (.iconst 1, 1) := by decide +kernel
theorem dX10_writeLine_16 : decode cX10_writeLine 16 = .ok (.aload_n 0, 1) := by decide +kernel
theorem dX10_writeLine_17 : decode cX10_writeLine 17 = .ok (.getfield 38, 3) := by decide +kernel
theorem dX10_writeLine_20 : decode cX10_writeLine 20 = .ok (.invokestatic 68, 3) := by decide +kernel
theorem dX10_writeLine_23 : decode cX10_writeLine 23 = .ok (.istore_n 3, 1) := by decide +kernel
theorem dX10_writeLine_24 : decode cX10_writeLine 24 = .ok (.aload_n 0, 1) := by decide +kernel
theorem dX10_writeLine_25 : decode cX10_writeLine 25 = .ok (.getfield 30, 3) := by decide +kernel
theorem dX10_writeLine_28 : decode cX10_writeLine 28 = .ok (.ifCond .eq 8, 3) := by decide +kernel
theorem dX10_writeLine_31 : decode cX10_writeLine 31 = .ok (.aload_n 0, 1) := by decide +kernel
theorem dX10_writeLine_32 : decode cX10_writeLine 32 = .ok (.iload_n 1, 1) := by decide +kernel
theorem dX10_writeLine_33 : decode cX10_writeLine 33 = .ok (.invokevirtual 55, 3) := by decide +kernel
theorem dX10_writeLine_36 : decode cX10_writeLine 36 = .ok (.iload_n 1, 1) := by decide +kernel
theorem dX10_writeLine_37 : decode cX10_writeLine 37 = .ok (.istore 4, 2) := by decide +kernel
theorem dX10_writeLine_39 : decode cX10_writeLine 39 = .ok (.iload 4, 2) := by decide +kernel
theorem dX10_writeLine_41 : decode cX10_writeLine 41 = .ok (.iload_n 2, 1) := by decide +kernel
theorem dX10_writeLine_42 : decode cX10_writeLine 42 = .ok (.if_icmp .ge 31, 3) := by decide +kernel
theorem dX10_writeLine_45 : decode cX10_writeLine 45 = .ok (.aload_n 0, 1) := by decide +kernel
theorem dX10_writeLine_46 : decode cX10_writeLine 46 = .ok (.getfield 9, 3) := by decide +kernel
theorem dX10_writeLine_49 : decode cX10_writeLine 49 = .ok (.bipush 32, 2) := by decide +kernel
theorem dX10_writeLine_51 : decode cX10_writeLine 51 = .ok (.invokevirtual 52, 3) := by decide +kernel
theorem dX10_writeLine_54 : decode cX10_writeLine 54 = .ok (.aload_n 0, 1) := by decide +kernel
theorem dX10_writeLine_55 : decode cX10_writeLine 55 = .ok (.aload_n 0, 1) := by decide +kernel
theorem dX10_writeLine_56 : decode cX10_writeLine 56 = .ok (.iload 4, 2) := by decide +kernel
theorem dX10_writeLine_58 : decode cX10_writeLine 58 = .ok (.invokevirtual 71, 3) := by decide +kernel
theorem dX10_writeLine_61 : decode cX10_writeLine 61 = .ok (.invokevirtual 75, 3) := by decide +kernel
theorem dX10_writeLine_64 : decode cX10_writeLine 64 = .ok (.iload 4, 2) := by decide +kernel
theorem dX10_writeLine_66 : decode cX10_writeLine 66 = .ok (.iload_n 3, 1) := by decide +kernel
theorem dX10_writeLine_67 : decode cX10_writeLine 67 = .ok (.iadd, 1) := by decide +kernel
theorem dX10_writeLine_68 : decode cX10_writeLine 68 = .ok (.istore 4, 2) := by decide +kernel
theorem dX10_writeLine_70 : decode cX10_writeLine 70 = .ok (.goto (-31), 3) := by decide +kernel
theorem dX10_writeLine_73 : decode cX10_writeLine 73 = .ok (.aload_n 0, 1) := by decide +kernel
theorem dX10_writeLine_74 : decode cX10_writeLine 74 = .ok (.getfield 9, 3) := by decide +kernel
theorem dX10_writeLine_77 : decode cX10_writeLine 77 = .ok (.bipush 10, 2) := by decide +kernel
theorem dX10_writeLine_79 : decode cX10_writeLine 79 = .ok (.invokevirtual 52, 3) := by decide +kernel
theorem dX10_writeLine_82 : decode cX10_writeLine 82 = .ok (.return_, 1) := by decide +kernel
theorem dX10_writeAddress_0 : decode cX10_writeAddress 0 = .ok (.aload_n 0, 1) := by decide +kernel
theorem dX10_writeAddress_1 : decode cX10_writeAddress 1 = .ok (.getfield 18, 3) := by decide +kernel
theorem dX10_writeAddress_4 : decode cX10_writeAddress 4 = .ok (.iload_n 1, 1) := by decide +kernel
theorem dX10_writeAddress_5 : decode cX10_writeAddress 5 = .ok (.i2l, 1) := by decide +kernel
theorem dX10_writeAddress_6 : decode cX10_writeAddress 6 = .ok (.aload_n 0, 1) := by decide +kernel
theorem dX10_writeAddress_7 : decode cX10_writeAddress 7 = .ok (.getfield 30, 3) := by decide +kernel
theorem dX10_writeAddress_10 : decode cX10_writeAddress 10 = .ok (.iconst 0, 1) := by decide +kernel
theorem dX10_writeAddress_11 : decode cX10_writeAddress 11 = .ok (.invokevirtual 79, 3) := by decide +kernel
theorem dX10_writeAddress_14 : decode cX10_writeAddress 14 = .ok (.aload_n 0, 1) := by decide +kernel
theorem dX10_writeAddress_15 : decode cX10_writeAddress 15 = .ok (.getfield 18, 3) := by decide +kernel
theorem dX10_writeAddress_18 : decode cX10_writeAddress 18 = .ok (.aload_n 0, 1) := by decide +kernel
theorem dX10_writeAddress_19 : decode cX10_writeAddress 19 = .ok (.getfield 9, 3) := by decide +kernel
theorem dX10_writeAddress_22 : decode cX10_writeAddress 22 = .ok (.aload_n 0, 1) := by decide +kernel
theorem dX10_writeAddress_23 : decode cX10_writeAddress 23 = .ok (.getfield 30, 3) := by decide +kernel
theorem dX10_writeAddress_26 : decode cX10_writeAddress 26 = .ok (.bipush 16, 2) := by decide +kernel
theorem dX10_writeAddress_28 : decode cX10_writeAddress 28 = .ok (.if_icmp .ne 8, 3) := by decide +kernel
theorem dX10_writeAddress_31 : decode cX10_writeAddress 31 = .ok (.bipush 6, 2) := by decide +kernel
theorem dX10_writeAddress_33 : decode cX10_writeAddress 33 = .ok (.goto 5, 3) := by decide +kernel
theorem dX10_writeAddress_36 : decode cX10_writeAddress 36 = .ok (.bipush 7, 2) := by decide +kernel
theorem dX10_writeAddress_38 : decode cX10_writeAddress 38 = .ok (.invokevirtual 85, 3) := by decide +kernel
theorem dX10_writeAddress_41 : decode cX10_writeAddress 41 = .ok (.return_, 1) := by decide +kernel
theorem dX10_wordAt_0 : decode cX10_wordAt 0 = .ok (.lconst 0, 1) := by decide +kernel
theorem dX10_wordAt_1 : decode cX10_wordAt 1 = .ok (.lstore_n 2, 1) := by decide +kernel
theorem dX10_wordAt_2 : decode cX10_wordAt 2 = .ok (.aload_n 0, 1) := by decide +kernel
theorem dX10_wordAt_3 : decode cX10_wordAt 3 = .ok (.getfield 38, 3) := by decide +kernel
theorem dX10_wordAt_6 : decode cX10_wordAt 6 = .ok (.iconst 1, 1) := by decide +kernel
theorem dX10_wordAt_7 : decode cX10_wordAt 7 = .ok (.isub, 1) := by decide +kernel
theorem dX10_wordAt_8 : decode cX10_wordAt 8 = .ok (.istore 4, 2) := by decide +kernel
theorem dX10_wordAt_10 : decode cX10_wordAt 10 = .ok (.iload 4, 2) := by decide +kernel
theorem dX10_wordAt_12 : decode cX10_wordAt 12 = .ok (.ifCond .lt 47, 3) := by decide +kernel
theorem dX10_wordAt_15 : decode cX10_wordAt 15 = .ok (.iload_n 1, 1) := by decide +kernel
theorem dX10_wordAt_16 : decode cX10_wordAt 16 = .ok (.iload 4, 2) := by decide +kernel
theorem dX10_wordAt_18 : decode cX10_wordAt 18 = .ok (.iadd, 1) := by decide +kernel
theorem dX10_wordAt_19 : decode cX10_wordAt 19 = .ok (.istore 5, 2) := by decide +kernel
theorem dX10_wordAt_21 : decode cX10_wordAt 21 = .ok (.lload_n 2, 1) := by decide +kernel
theorem dX10_wordAt_22 : decode cX10_wordAt 22 = .ok (.bipush 8, 2) := by decide +kernel
theorem dX10_wordAt_24 : decode cX10_wordAt 24 = .ok (.lshl, 1) := by decide +kernel
theorem dX10_wordAt_25 : decode cX10_wordAt 25 = .ok (.iload 5, 2) := by decide +kernel
theorem dX10_wordAt_27 : decode cX10_wordAt 27 = .ok (.aload_n 0, 1) := by decide +kernel
theorem dX10_wordAt_28 : decode cX10_wordAt 28 = .ok (.getfield 15, 3) := by decide +kernel
theorem dX10_wordAt_31 : decode cX10_wordAt 31 = .ok (.invokevirtual 41, 3) := by decide +kernel
theorem dX10_wordAt_34 : decode cX10_wordAt 34 = .ok (.if_icmp .ge 15, 3) := by decide +kernel
theorem dX10_wordAt_37 : decode cX10_wordAt 37 = .ok (.aload_n 0, 1) := by decide +kernel
theorem dX10_wordAt_38 : decode cX10_wordAt 38 = .ok (.getfield 15, 3) := by decide +kernel
theorem dX10_wordAt_41 : decode cX10_wordAt 41 = .ok (.iload 5, 2) := by decide +kernel
theorem dX10_wordAt_43 : decode cX10_wordAt 43 = .ok (.invokevirtual 58, 3) := by decide +kernel
theorem dX10_wordAt_46 : decode cX10_wordAt 46 = .ok (.goto 4, 3) := by decide +kernel
theorem dX10_wordAt_49 : decode cX10_wordAt 49 = .ok (.iconst 0, 1) := by decide +kernel
theorem dX10_wordAt_50 : decode cX10_wordAt 50 = .ok (.i2l, 1) := by decide +kernel
theorem dX10_wordAt_51 : decode cX10_wordAt 51 = .ok (.lor, 1) := by decide +kernel
theorem dX10_wordAt_52 : decode cX10_wordAt 52 = .ok (.lstore_n 2, 1) := by decide +kernel
theorem dX10_wordAt_53 : decode cX10_wordAt 53 = .ok (.iinc 4 (-1), 3) := by decide +kernel
theorem dX10_wordAt_56 : decode cX10_wordAt 56 = .ok (.goto (-46), 3) := by decide +kernel
theorem dX10_wordAt_59 : decode cX10_wordAt 59 = .ok (.lload_n 2, 1) := by decide +kernel
theorem dX10_wordAt_60 : decode cX10_wordAt 60 = .ok (.lreturn, 1) := by decide +kernel
theorem dX10_writeField_0 : decode cX10_writeField 0 = .ok (.aload_n 0, 1) := by decide +kernel
theorem dX10_writeField_1 : decode cX10_writeField 1 = .ok (.getfield 27, 3) := by decide +kernel
theorem dX10_writeField_4 : decode cX10_writeField 4 = .ok (.invokevirtual 89, 3) := by decide +kernel
theorem dX10_writeField_7 : decode cX10_writeField 7 = .ok (.aload_n 0, 1) := by decide +kernel
theorem dX10_writeField_8 : decode cX10_writeField 8 = .ok (.getfield 34, 3) := by decide +kernel
theorem dX10_writeField_11 : decode cX10_writeField 11 = .ok (.bipush 99, 2) := by decide +kernel
theorem dX10_writeField_13 : decode cX10_writeField 13 = .ok (.if_icmp .ne 12, 3) := by decide +kernel
theorem dX10_writeField_16 : decode cX10_writeField 16 = .ok (.aload_n 0, 1) := by decide +kernel
theorem dX10_writeField_17 : decode cX10_writeField 17 = .ok (.lload_n 1, 1) := by decide +kernel
theorem dX10_writeField_18 : decode cX10_writeField 18 = .ok (.l2i, 1) := by decide +kernel
theorem dX10_writeField_19 : decode cX10_writeField 19 = .ok (.invokevirtual 92, 3) := by decide +kernel
theorem dX10_writeField_22 : decode cX10_writeField 22 = .ok (.goto 8, 3) := by decide +kernel
theorem dX10_writeField_25 : decode cX10_writeField 25 = .ok (.aload_n 0, 1) := by decide +kernel
theorem dX10_writeField_26 : decode cX10_writeField 26 = .ok (.lload_n 1, 1) := by decide +kernel
theorem dX10_writeField_27 : decode cX10_writeField 27 = .ok (.invokevirtual 95, 3) := by decide +kernel
theorem dX10_writeField_30 : decode cX10_writeField 30 = .ok (.aload_n 0, 1) := by decide +kernel
theorem dX10_writeField_31 : decode cX10_writeField 31 = .ok (.getfield 9, 3) := by decide +kernel
theorem dX10_writeField_34 : decode cX10_writeField 34 = .ok (.bipush 32, 2) := by decide +kernel
theorem dX10_writeField_36 : decode cX10_writeField 36 = .ok (.aload_n 0, 1) := by decide +kernel
theorem dX10_writeField_37 : decode cX10_writeField 37 = .ok (.invokevirtual 98, 3) := by decide +kernel
theorem dX10_writeField_40 : decode cX10_writeField 40 = .ok (.aload_n 0, 1) := by decide +kernel
theorem dX10_writeField_41 : decode cX10_writeField 41 = .ok (.getfield 27, 3) := by decide +kernel
theorem dX10_writeField_44 : decode cX10_writeField 44 = .ok (.invokevirtual 41, 3) := by decide +kernel
theorem dX10_writeField_47 : decode cX10_writeField 47 = .ok (.isub, 1) := by decide +kernel
theorem dX10_writeField_48 : decode cX10_writeField 48 = .ok (.invokevirtual 101, 3) := by decide +kernel
theorem dX10_writeField_51 : decode cX10_writeField 51 = .ok (.iconst 0, 1) := by decide +kernel
theorem dX10_writeField_52 : decode cX10_writeField 52 = .ok (.istore_n 3, 1) := by decide +kernel
theorem dX10_writeField_53 : decode cX10_writeField 53 = .ok (.iload_n 3, 1) := by decide +kernel
theorem dX10_writeField_54 : decode cX10_writeField 54 = .ok (.aload_n 0, 1) := by decide +kernel
theorem dX10_writeField_55 : decode cX10_writeField 55 = .ok (.getfield 27, 3) := by decide +kernel
theorem dX10_writeField_58 : decode cX10_writeField 58 = .ok (.invokevirtual 41, 3) := by decide +kernel
theorem dX10_writeField_61 : decode cX10_writeField 61 = .ok (.if_icmp .ge 24, 3) := by decide +kernel
theorem dX10_writeField_64 : decode cX10_writeField 64 = .ok (.aload_n 0, 1) := by decide +kernel
theorem dX10_writeField_65 : decode cX10_writeField 65 = .ok (.getfield 9, 3) := by decide +kernel
theorem dX10_writeField_68 : decode cX10_writeField 68 = .ok (.aload_n 0, 1) := by decide +kernel
theorem dX10_writeField_69 : decode cX10_writeField 69 = .ok (.getfield 27, 3) := by decide +kernel
theorem dX10_writeField_72 : decode cX10_writeField 72 = .ok (.iload_n 3, 1) := by decide +kernel
theorem dX10_writeField_73 : decode cX10_writeField 73 = .ok (.invokevirtual 58, 3) := by decide +kernel
theorem dX10_writeField_76 : decode cX10_writeField 76 = .ok (.invokevirtual 52, 3) := by decide +kernel
theorem dX10_writeField_79 : decode cX10_writeField 79 = .ok (.iinc 3 1, 3) := by decide +kernel
theorem dX10_writeField_82 : decode cX10_writeField 82 = .ok (.goto (-29), 3) := by decide +kernel
theorem dX10_writeField_85 : decode cX10_writeField 85 = .ok (.return_, 1) := by decide +kernel
theorem dX10_loadNumber_0 : decode cX10_loadNumber 0 = .ok (.bipush 64, 2) := by decide +kernel
theorem dX10_loadNumber_2 : decode cX10_loadNumber 2 = .ok (.bipush 8, 2) := by decide +kernel
theorem dX10_loadNumber_4 : decode cX10_loadNumber 4 = .ok (.aload_n 0, 1) := by decide +kernel
theorem dX10_loadNumber_5 : decode cX10_loadNumber 5 = .ok (.getfield 38, 3) := by decide +kernel
theorem dX10_loadNumber_8 : decode cX10_loadNumber 8 = .ok (.imul, 1) := by decide +kernel
theorem dX10_loadNumber_9 : decode cX10_loadNumber 9 = .ok (.isub, 1) := by decide +kernel
theorem dX10_loadNumber_10 : decode cX10_loadNumber 10 = .ok (.istore_n 3, 1) := by decide +kernel
theorem dX10_loadNumber_11 : decode cX10_loadNumber 11 = .ok (.aload_n 0, 1) := by decide +kernel
theorem dX10_loadNumber_12 : decode cX10_loadNumber 12 = .ok (.getfield 34, 3) := by decide +kernel
theorem dX10_loadNumber_15 : decode cX10_loadNumber 15 = .ok (.bipush 100, 2) := by decide +kernel
theorem dX10_loadNumber_17 : decode cX10_loadNumber 17 = .ok (.if_icmp .ne 15, 3) := by decide +kernel
theorem dX10_loadNumber_20 : decode cX10_loadNumber 20 = .ok (.lload_n 1, 1) := by decide +kernel
theorem dX10_loadNumber_21 : decode cX10_loadNumber 21 = .ok (.iload_n 3, 1) := by decide +kernel
theorem dX10_loadNumber_22 : decode cX10_loadNumber 22 = .ok (.lshl, 1) := by decide +kernel
theorem dX10_loadNumber_23 : decode cX10_loadNumber 23 = .ok (.lconst 0, 1) := by decide +kernel
theorem dX10_loadNumber_24 : decode cX10_loadNumber 24 = .ok (.lcmp, 1) := by decide +kernel
theorem dX10_loadNumber_25 : decode cX10_loadNumber 25 = .ok (.ifCond .ge 7, 3) := by decide +kernel
theorem dX10_loadNumber_28 : decode cX10_loadNumber 28 = .ok (.iconst 1, 1) := by decide +kernel
theorem dX10_loadNumber_29 : decode cX10_loadNumber 29 = .ok (.goto 4, 3) := by decide +kernel
theorem dX10_loadNumber_32 : decode cX10_loadNumber 32 = .ok (.iconst 0, 1) := by decide +kernel
theorem dX10_loadNumber_33 : decode cX10_loadNumber 33 = .ok (.istore 4, 2) := by decide +kernel
theorem dX10_loadNumber_35 : decode cX10_loadNumber 35 = .ok (.iload 4, 2) := by decide +kernel
theorem dX10_loadNumber_37 : decode cX10_loadNumber 37 = .ok (.ifCond .eq 31, 3) := by decide +kernel
theorem dX10_loadNumber_40 : decode cX10_loadNumber 40 = .ok (.aload_n 0, 1) := by decide +kernel
theorem dX10_loadNumber_41 : decode cX10_loadNumber 41 = .ok (.getfield 27, 3) := by decide +kernel
theorem dX10_loadNumber_44 : decode cX10_loadNumber 44 = .ok (.bipush 45, 2) := by decide +kernel
theorem dX10_loadNumber_46 : decode cX10_loadNumber 46 = .ok (.invokevirtual 52, 3) := by decide +kernel
theorem dX10_loadNumber_49 : decode cX10_loadNumber 49 = .ok (.aload_n 0, 1) := by decide +kernel
theorem dX10_loadNumber_50 : decode cX10_loadNumber 50 = .ok (.getfield 18, 3) := by decide +kernel
theorem dX10_loadNumber_53 : decode cX10_loadNumber 53 = .ok (.lload_n 1, 1) := by decide +kernel
theorem dX10_loadNumber_54 : decode cX10_loadNumber 54 = .ok (.iload_n 3, 1) := by decide +kernel
theorem dX10_loadNumber_55 : decode cX10_loadNumber 55 = .ok (.lshl, 1) := by decide +kernel
theorem dX10_loadNumber_56 : decode cX10_loadNumber 56 = .ok (.iload_n 3, 1) := by decide +kernel
theorem dX10_loadNumber_57 : decode cX10_loadNumber 57 = .ok (.lshr, 1) := by decide +kernel
theorem dX10_loadNumber_58 : decode cX10_loadNumber 58 = .ok (.lneg, 1) := by decide +kernel
theorem dX10_loadNumber_59 : decode cX10_loadNumber 59 = .ok (.bipush 10, 2) := by decide +kernel
theorem dX10_loadNumber_61 : decode cX10_loadNumber 61 = .ok (.iconst 0, 1) := by decide +kernel
theorem dX10_loadNumber_62 : decode cX10_loadNumber 62 = .ok (.invokevirtual 79, 3) := by decide +kernel
theorem dX10_loadNumber_65 : decode cX10_loadNumber 65 = .ok (.goto 16, 3) := by decide +kernel
theorem dX10_loadNumber_68 : decode cX10_loadNumber 68 = .ok (.aload_n 0, 1) := by decide +kernel
theorem dX10_loadNumber_69 : decode cX10_loadNumber 69 = .ok (.getfield 18, 3) := by decide +kernel
theorem dX10_loadNumber_72 : decode cX10_loadNumber 72 = .ok (.lload_n 1, 1) := by decide +kernel
theorem dX10_loadNumber_73 : decode cX10_loadNumber 73 = .ok (.aload_n 0, 1) := by decide +kernel
theorem dX10_loadNumber_74 : decode cX10_loadNumber 74 = .ok (.invokevirtual 105, 3) := by decide +kernel
theorem dX10_loadNumber_77 : decode cX10_loadNumber 77 = .ok (.iconst 0, 1) := by decide +kernel
theorem dX10_loadNumber_78 : decode cX10_loadNumber 78 = .ok (.invokevirtual 79, 3) := by decide +kernel
theorem dX10_loadNumber_81 : decode cX10_loadNumber 81 = .ok (.aload_n 0, 1) := by decide +kernel
theorem dX10_loadNumber_82 : decode cX10_loadNumber 82 = .ok (.getfield 18, 3) := by decide +kernel
theorem dX10_loadNumber_85 : decode cX10_loadNumber 85 = .ok (.aload_n 0, 1) := by decide +kernel
theorem dX10_loadNumber_86 : decode cX10_loadNumber 86 = .ok (.getfield 27, 3) := by decide +kernel
theorem dX10_loadNumber_89 : decode cX10_loadNumber 89 = .ok (.aload_n 0, 1) := by decide +kernel
theorem dX10_loadNumber_90 : decode cX10_loadNumber 90 = .ok (.invokevirtual 108, 3) := by decide +kernel
theorem dX10_loadNumber_93 : decode cX10_loadNumber 93 = .ok (.invokevirtual 85, 3) := by decide +kernel
theorem dX10_loadNumber_96 : decode cX10_loadNumber 96 = .ok (.return_, 1) := by decide +kernel
theorem dX10_loadCharacter_0 : decode cX10_loadCharacter 0 = .ok (.iload_n 1, 1) := by decide +kernel
theorem dX10_loadCharacter_1 : decode cX10_loadCharacter 1 = .ok (.invokestatic 111, 3) := by decide +kernel
theorem dX10_loadCharacter_4 : decode cX10_loadCharacter 4 = .ok (.istore_n 2, 1) := by decide +kernel
theorem dX10_loadCharacter_5 : decode cX10_loadCharacter 5 = .ok (.iload_n 1, 1) := by decide +kernel
theorem dX10_loadCharacter_6 : decode cX10_loadCharacter 6 = .ok (.invokestatic 114, 3) := by decide +kernel
theorem dX10_loadCharacter_9 : decode cX10_loadCharacter 9 = .ok (.ifCond .eq 14, 3) := by decide +kernel
theorem dX10_loadCharacter_12 : decode cX10_loadCharacter 12 = .ok (.aload_n 0, 1) := by decide +kernel
theorem dX10_loadCharacter_13 : decode cX10_loadCharacter 13 = .ok (.getfield 27, 3) := by decide +kernel
theorem dX10_loadCharacter_16 : decode cX10_loadCharacter 16 = .ok (.iload_n 1, 1) := by decide +kernel
theorem dX10_loadCharacter_17 : decode cX10_loadCharacter 17 = .ok (.invokevirtual 52, 3) := by decide +kernel
theorem dX10_loadCharacter_20 : decode cX10_loadCharacter 20 = .ok (.goto 52, 3) := by decide +kernel
theorem dX10_loadCharacter_23 : decode cX10_loadCharacter 23 = .ok (.iload_n 2, 1) := by decide +kernel
theorem dX10_loadCharacter_24 : decode cX10_loadCharacter 24 = .ok (.iconst (-1), 1) := by decide +kernel
theorem dX10_loadCharacter_25 : decode cX10_loadCharacter 25 = .ok (.if_icmp .eq 23, 3) := by decide +kernel
theorem dX10_loadCharacter_28 : decode cX10_loadCharacter 28 = .ok (.aload_n 0, 1) := by decide +kernel
theorem dX10_loadCharacter_29 : decode cX10_loadCharacter 29 = .ok (.getfield 27, 3) := by decide +kernel
theorem dX10_loadCharacter_32 : decode cX10_loadCharacter 32 = .ok (.bipush 92, 2) := by decide +kernel
theorem dX10_loadCharacter_34 : decode cX10_loadCharacter 34 = .ok (.invokevirtual 52, 3) := by decide +kernel
theorem dX10_loadCharacter_37 : decode cX10_loadCharacter 37 = .ok (.aload_n 0, 1) := by decide +kernel
theorem dX10_loadCharacter_38 : decode cX10_loadCharacter 38 = .ok (.getfield 27, 3) := by decide +kernel
theorem dX10_loadCharacter_41 : decode cX10_loadCharacter 41 = .ok (.iload_n 2, 1) := by decide +kernel
theorem dX10_loadCharacter_42 : decode cX10_loadCharacter 42 = .ok (.invokevirtual 52, 3) := by decide +kernel
theorem dX10_loadCharacter_45 : decode cX10_loadCharacter 45 = .ok (.goto 27, 3) := by decide +kernel
theorem dX10_loadCharacter_48 : decode cX10_loadCharacter 48 = .ok (.aload_n 0, 1) := by decide +kernel
theorem dX10_loadCharacter_49 : decode cX10_loadCharacter 49 = .ok (.getfield 18, 3) := by decide +kernel
theorem dX10_loadCharacter_52 : decode cX10_loadCharacter 52 = .ok (.iload_n 1, 1) := by decide +kernel
theorem dX10_loadCharacter_53 : decode cX10_loadCharacter 53 = .ok (.i2l, 1) := by decide +kernel
theorem dX10_loadCharacter_54 : decode cX10_loadCharacter 54 = .ok (.bipush 8, 2) := by decide +kernel
theorem dX10_loadCharacter_56 : decode cX10_loadCharacter 56 = .ok (.iconst 0, 1) := by decide +kernel
theorem dX10_loadCharacter_57 : decode cX10_loadCharacter 57 = .ok (.invokevirtual 79, 3) := by decide +kernel
theorem dX10_loadCharacter_60 : decode cX10_loadCharacter 60 = .ok (.aload_n 0, 1) := by decide +kernel
theorem dX10_loadCharacter_61 : decode cX10_loadCharacter 61 = .ok (.getfield 18, 3) := by decide +kernel
theorem dX10_loadCharacter_64 : decode cX10_loadCharacter 64 = .ok (.aload_n 0, 1) := by decide +kernel
theorem dX10_loadCharacter_65 : decode cX10_loadCharacter 65 = .ok (.getfield 27, 3) := by decide +kernel
theorem dX10_loadCharacter_68 : decode cX10_loadCharacter 68 = .ok (.iconst 3, 1) := by decide +kernel
theorem dX10_loadCharacter_69 : decode cX10_loadCharacter 69 = .ok (.invokevirtual 85, 3) := by decide +kernel
theorem dX10_loadCharacter_72 : decode cX10_loadCharacter 72 = .ok (.return_, 1) := by decide +kernel
theorem dX10_nameOf_0 : decode cX10_nameOf 0 = .ok (.iload_n 0, 1) := by decide +kernel
theorem dX10_nameOf_1 : decode cX10_nameOf 1 = .ok (.tableswitch 95 0 13 #[71, 95, 95, 95, 95, 95, 95, 74, 77, 80, 83, 86, 89, 92], 71) := by decide +kernel
theorem dX10_nameOf_72 : decode cX10_nameOf 72 = .ok (.bipush 48, 2) := by decide +kernel
theorem dX10_nameOf_74 : decode cX10_nameOf 74 = .ok (.ireturn, 1) := by decide +kernel
theorem dX10_nameOf_75 : decode cX10_nameOf 75 = .ok (.bipush 97, 2) := by decide +kernel
theorem dX10_nameOf_77 : decode cX10_nameOf 77 = .ok (.ireturn, 1) := by decide +kernel
theorem dX10_nameOf_78 : decode cX10_nameOf 78 = .ok (.bipush 98, 2) := by decide +kernel
theorem dX10_nameOf_80 : decode cX10_nameOf 80 = .ok (.ireturn, 1) := by decide +kernel
theorem dX10_nameOf_81 : decode cX10_nameOf 81 = .ok (.bipush 116, 2) := by decide +kernel
theorem dX10_nameOf_83 : decode cX10_nameOf 83 = .ok (.ireturn, 1) := by decide +kernel
theorem dX10_nameOf_84 : decode cX10_nameOf 84 = .ok (.bipush 110, 2) := by decide +kernel
theorem dX10_nameOf_86 : decode cX10_nameOf 86 = .ok (.ireturn, 1) := by decide +kernel
theorem dX10_nameOf_87 : decode cX10_nameOf 87 = .ok (.bipush 118, 2) := by decide +kernel
theorem dX10_nameOf_89 : decode cX10_nameOf 89 = .ok (.ireturn, 1) := by decide +kernel
theorem dX10_nameOf_90 : decode cX10_nameOf 90 = .ok (.bipush 102, 2) := by decide +kernel
theorem dX10_nameOf_92 : decode cX10_nameOf 92 = .ok (.ireturn, 1) := by decide +kernel
theorem dX10_nameOf_93 : decode cX10_nameOf 93 = .ok (.bipush 114, 2) := by decide +kernel
theorem dX10_nameOf_95 : decode cX10_nameOf 95 = .ok (.ireturn, 1) := by decide +kernel
theorem dX10_nameOf_96 : decode cX10_nameOf 96 = .ok (.iconst (-1), 1) := by decide +kernel
theorem dX10_nameOf_97 : decode cX10_nameOf 97 = .ok (.ireturn, 1) := by decide +kernel
theorem dX10_fieldBase_0 : decode cX10_fieldBase 0 = .ok (.aload_n 0, 1) := by decide +kernel
theorem dX10_fieldBase_1 : decode cX10_fieldBase 1 = .ok (.getfield 34, 3) := by decide +kernel
theorem dX10_fieldBase_4 : decode cX10_fieldBase 4 = .ok (.lookupswitch 34 #[(111, 28), (120, 31)], 28) := by decide +kernel
theorem dX10_fieldBase_32 : decode cX10_fieldBase 32 = .ok (.bipush 8, 2) := by decide +kernel
theorem dX10_fieldBase_34 : decode cX10_fieldBase 34 = .ok (.ireturn, 1) := by decide +kernel
theorem dX10_fieldBase_35 : decode cX10_fieldBase 35 = .ok (.bipush 16, 2) := by decide +kernel
theorem dX10_fieldBase_37 : decode cX10_fieldBase 37 = .ok (.ireturn, 1) := by decide +kernel
theorem dX10_fieldBase_38 : decode cX10_fieldBase 38 = .ok (.bipush 10, 2) := by decide +kernel
theorem dX10_fieldBase_40 : decode cX10_fieldBase 40 = .ok (.ireturn, 1) := by decide +kernel
theorem dX10_leastDigits_0 : decode cX10_leastDigits 0 = .ok (.aload_n 0, 1) := by decide +kernel
theorem dX10_leastDigits_1 : decode cX10_leastDigits 1 = .ok (.getfield 34, 3) := by decide +kernel
theorem dX10_leastDigits_4 : decode cX10_leastDigits 4 = .ok (.lookupswitch 47 #[(111, 28), (120, 40)], 28) := by decide +kernel
theorem dX10_leastDigits_32 : decode cX10_leastDigits 32 = .ok (.bipush 8, 2) := by decide +kernel
theorem dX10_leastDigits_34 : decode cX10_leastDigits 34 = .ok (.aload_n 0, 1) := by decide +kernel
theorem dX10_leastDigits_35 : decode cX10_leastDigits 35 = .ok (.getfield 38, 3) := by decide +kernel
theorem dX10_leastDigits_38 : decode cX10_leastDigits 38 = .ok (.imul, 1) := by decide +kernel
theorem dX10_leastDigits_39 : decode cX10_leastDigits 39 = .ok (.iconst 2, 1) := by decide +kernel
theorem dX10_leastDigits_40 : decode cX10_leastDigits 40 = .ok (.iadd, 1) := by decide +kernel
theorem dX10_leastDigits_41 : decode cX10_leastDigits 41 = .ok (.iconst 3, 1) := by decide +kernel
theorem dX10_leastDigits_42 : decode cX10_leastDigits 42 = .ok (.idiv, 1) := by decide +kernel
theorem dX10_leastDigits_43 : decode cX10_leastDigits 43 = .ok (.ireturn, 1) := by decide +kernel
theorem dX10_leastDigits_44 : decode cX10_leastDigits 44 = .ok (.iconst 2, 1) := by decide +kernel
theorem dX10_leastDigits_45 : decode cX10_leastDigits 45 = .ok (.aload_n 0, 1) := by decide +kernel
theorem dX10_leastDigits_46 : decode cX10_leastDigits 46 = .ok (.getfield 38, 3) := by decide +kernel
theorem dX10_leastDigits_49 : decode cX10_leastDigits 49 = .ok (.imul, 1) := by decide +kernel
theorem dX10_leastDigits_50 : decode cX10_leastDigits 50 = .ok (.ireturn, 1) := by decide +kernel
theorem dX10_leastDigits_51 : decode cX10_leastDigits 51 = .ok (.iconst 1, 1) := by decide +kernel
theorem dX10_leastDigits_52 : decode cX10_leastDigits 52 = .ok (.ireturn, 1) := by decide +kernel
theorem dX10_fieldWidth_0 : decode cX10_fieldWidth 0 = .ok (.aload_n 0, 1) := by decide +kernel
