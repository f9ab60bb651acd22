theorem dX7_init_0 : decode cX7_init 0 = .ok (.aload_n 0, 1) := by decide +kernel
theorem dX7_init_1 : decode cX7_init 1 = .ok (.invokespecial 3, 3) := by decide +kernel
theorem dX7_init_4 : decode cX7_init 4 = .ok (.aload_n 0, 1) := by decide +kernel
theorem dX7_init_5 : decode cX7_init 5 = .ok (.aload_n 1, 1) := by decide +kernel
theorem dX7_init_6 : decode cX7_init 6 = .ok (.putfield 9, 3) := by decide +kernel
theorem dX7_init_9 : decode cX7_init 9 = .ok (.aload_n 0, 1) := by decide +kernel
theorem dX7_init_10 : decode cX7_init 10 = .ok (.new 15, 3) := by decide +kernel
theorem dX7_init_13 : decode cX7_init 13 = .ok (.dup, 1) := by decide +kernel
theorem dX7_init_14 : decode cX7_init 14 = .ok (.sipush 256, 3) := by decide +kernel
theorem dX7_init_17 : decode cX7_init 17 = .ok (.invokespecial 17, 3) := by decide +kernel
theorem dX7_init_20 : decode cX7_init 20 = .ok (.putfield 20, 3) := by decide +kernel
theorem dX7_init_23 : decode cX7_init 23 = .ok (.aload_n 0, 1) := by decide +kernel
theorem dX7_init_24 : decode cX7_init 24 = .ok (.new 15, 3) := by decide +kernel
theorem dX7_init_27 : decode cX7_init 27 = .ok (.dup, 1) := by decide +kernel
theorem dX7_init_28 : decode cX7_init 28 = .ok (.bipush 32, 2) := by decide +kernel
theorem dX7_init_30 : decode cX7_init 30 = .ok (.invokespecial 17, 3) := by decide +kernel
theorem dX7_init_33 : decode cX7_init 33 = .ok (.putfield 23, 3) := by decide +kernel
theorem dX7_init_36 : decode cX7_init 36 = .ok (.aload_n 0, 1) := by decide +kernel
theorem dX7_init_37 : decode cX7_init 37 = .ok (.iconst 0, 1) := by decide +kernel
theorem dX7_init_38 : decode cX7_init 38 = .ok (.putfield 26, 3) := by decide +kernel
theorem dX7_init_41 : decode cX7_init 41 = .ok (.aload_n 0, 1) := by decide +kernel
theorem dX7_init_42 : decode cX7_init 42 = .ok (.iconst 0, 1) := by decide +kernel
theorem dX7_init_43 : decode cX7_init 43 = .ok (.putfield 30, 3) := by decide +kernel
theorem dX7_init_46 : decode cX7_init 46 = .ok (.return_, 1) := by decide +kernel
theorem dX7_found_0 : decode cX7_found 0 = .ok (.aload_n 0, 1) := by decide +kernel
theorem dX7_found_1 : decode cX7_found 1 = .ok (.getfield 20, 3) := by decide +kernel
theorem dX7_found_4 : decode cX7_found 4 = .ok (.areturn, 1) := by decide +kernel
theorem dX7_stop_0 : decode cX7_stop 0 = .ok (.aload_n 0, 1) := by decide +kernel
theorem dX7_stop_1 : decode cX7_stop 1 = .ok (.getfield 30, 3) := by decide +kernel
theorem dX7_stop_4 : decode cX7_stop 4 = .ok (.ireturn, 1) := by decide +kernel
theorem dX7_readPage_0 : decode cX7_readPage 0 = .ok (.iload_n 1, 1) := by decide +kernel
theorem dX7_readPage_1 : decode cX7_readPage 1 = .ok (.iload_n 2, 1) := by decide +kernel
theorem dX7_readPage_2 : decode cX7_readPage 2 = .ok (.invokestatic 33, 3) := by decide +kernel
theorem dX7_readPage_5 : decode cX7_readPage 5 = .ok (.istore_n 3, 1) := by decide +kernel
theorem dX7_readPage_6 : decode cX7_readPage 6 = .ok (.iconst 1, 1) := by decide +kernel
theorem dX7_readPage_7 : decode cX7_readPage 7 = .ok (.istore 4, 2) := by decide +kernel
theorem dX7_readPage_9 : decode cX7_readPage 9 = .ok (.aload_n 0, 1) := by decide +kernel
theorem dX7_readPage_10 : decode cX7_readPage 10 = .ok (.getfield 20, 3) := by decide +kernel
theorem dX7_readPage_13 : decode cX7_readPage 13 = .ok (.invokevirtual 37, 3) := by decide +kernel
theorem dX7_readPage_16 : decode cX7_readPage 16 = .ok (.aload_n 0, 1) := by decide +kernel
theorem dX7_readPage_17 : decode cX7_readPage 17 = .ok (.iconst 0, 1) := by decide +kernel
theorem dX7_readPage_18 : decode cX7_readPage 18 = .ok (.putfield 26, 3) := by decide +kernel
theorem dX7_readPage_21 : decode cX7_readPage 21 = .ok (.aload_n 0, 1) := by decide +kernel
theorem dX7_readPage_22 : decode cX7_readPage 22 = .ok (.iconst 0, 1) := by decide +kernel
theorem dX7_readPage_23 : decode cX7_readPage 23 = .ok (.putfield 30, 3) := by decide +kernel
theorem dX7_readPage_26 : decode cX7_readPage 26 = .ok (.iconst 0, 1) := by decide +kernel
theorem dX7_readPage_27 : decode cX7_readPage 27 = .ok (.istore 5, 2) := by decide +kernel
theorem dX7_readPage_29 : decode cX7_readPage 29 = .ok (.iload 5, 2) := by decide +kernel
theorem dX7_readPage_31 : decode cX7_readPage 31 = .ok (.sipush 2000, 3) := by decide +kernel
theorem dX7_readPage_34 : decode cX7_readPage 34 = .ok (.if_icmp .ge 58, 3) := by decide +kernel
theorem dX7_readPage_37 : decode cX7_readPage 37 = .ok (.aload_n 0, 1) := by decide +kernel
theorem dX7_readPage_38 : decode cX7_readPage 38 = .ok (.getfield 30, 3) := by decide +kernel
theorem dX7_readPage_41 : decode cX7_readPage 41 = .ok (.aload_n 0, 1) := by decide +kernel
theorem dX7_readPage_42 : decode cX7_readPage 42 = .ok (.getfield 9, 3) := by decide +kernel
theorem dX7_readPage_45 : decode cX7_readPage 45 = .ok (.invokevirtual 40, 3) := by decide +kernel
theorem dX7_readPage_48 : decode cX7_readPage 48 = .ok (.if_icmp .ge 44, 3) := by decide +kernel
theorem dX7_readPage_51 : decode cX7_readPage 51 = .ok (.iload 4, 2) := by decide +kernel
theorem dX7_readPage_53 : decode cX7_readPage 53 = .ok (.ifCond .eq 13, 3) := by decide +kernel
theorem dX7_readPage_56 : decode cX7_readPage 56 = .ok (.aload_n 0, 1) := by decide +kernel
theorem dX7_readPage_57 : decode cX7_readPage 57 = .ok (.iload_n 1, 1) := by decide +kernel
theorem dX7_readPage_58 : decode cX7_readPage 58 = .ok (.iload_n 2, 1) := by decide +kernel
theorem dX7_readPage_59 : decode cX7_readPage 59 = .ok (.iload_n 3, 1) := by decide +kernel
theorem dX7_readPage_60 : decode cX7_readPage 60 = .ok (.invokevirtual 44, 3) := by decide +kernel
theorem dX7_readPage_63 : decode cX7_readPage 63 = .ok (.ifCond .ne 5, 3) := by decide +kernel
theorem dX7_readPage_66 : decode cX7_readPage 66 = .ok (.iconst 0, 1) := by decide +kernel
theorem dX7_readPage_67 : decode cX7_readPage 67 = .ok (.ireturn, 1) := by decide +kernel
theorem dX7_readPage_68 : decode cX7_readPage 68 = .ok (.aload_n 0, 1) := by decide +kernel
theorem dX7_readPage_69 : decode cX7_readPage 69 = .ok (.getfield 23, 3) := by decide +kernel
theorem dX7_readPage_72 : decode cX7_readPage 72 = .ok (.invokevirtual 40, 3) := by decide +kernel
theorem dX7_readPage_75 : decode cX7_readPage 75 = .ok (.iload_n 1, 1) := by decide +kernel
theorem dX7_readPage_76 : decode cX7_readPage 76 = .ok (.if_icmp .ne 7, 3) := by decide +kernel
theorem dX7_readPage_79 : decode cX7_readPage 79 = .ok (.iconst 1, 1) := by decide +kernel
theorem dX7_readPage_80 : decode cX7_readPage 80 = .ok (.goto 4, 3) := by decide +kernel
theorem dX7_readPage_83 : decode cX7_readPage 83 = .ok (.iconst 0, 1) := by decide +kernel
theorem dX7_readPage_84 : decode cX7_readPage 84 = .ok (.istore 4, 2) := by decide +kernel
theorem dX7_readPage_86 : decode cX7_readPage 86 = .ok (.iinc 5 1, 3) := by decide +kernel
theorem dX7_readPage_89 : decode cX7_readPage 89 = .ok (.goto (-60), 3) := by decide +kernel
theorem dX7_readPage_92 : decode cX7_readPage 92 = .ok (.iconst 1, 1) := by decide +kernel
theorem dX7_readPage_93 : decode cX7_readPage 93 = .ok (.ireturn, 1) := by decide +kernel
theorem dX7_readLine_0 : decode cX7_readLine 0 = .ok (.aload_n 0, 1) := by decide +kernel
theorem dX7_readLine_1 : decode cX7_readLine 1 = .ok (.invokevirtual 48, 3) := by decide +kernel
theorem dX7_readLine_4 : decode cX7_readLine 4 = .ok (.ifCond .eq 21, 3) := by decide +kernel
theorem dX7_readLine_7 : decode cX7_readLine 7 = .ok (.aload_n 0, 1) := by decide +kernel
theorem dX7_readLine_8 : decode cX7_readLine 8 = .ok (.bipush 58, 2) := by decide +kernel
theorem dX7_readLine_10 : decode cX7_readLine 10 = .ok (.invokevirtual 52, 3) := by decide +kernel
theorem dX7_readLine_13 : decode cX7_readLine 13 = .ok (.ifCond .eq 12, 3) := by decide +kernel
theorem dX7_readLine_16 : decode cX7_readLine 16 = .ok (.aload_n 0, 1) := by decide +kernel
theorem dX7_readLine_17 : decode cX7_readLine 17 = .ok (.bipush 32, 2) := by decide +kernel
theorem dX7_readLine_19 : decode cX7_readLine 19 = .ok (.invokevirtual 52, 3) := by decide +kernel
theorem dX7_readLine_22 : decode cX7_readLine 22 = .ok (.ifCond .ne 5, 3) := by decide +kernel
theorem dX7_readLine_25 : decode cX7_readLine 25 = .ok (.iconst 0, 1) := by decide +kernel
theorem dX7_readLine_26 : decode cX7_readLine 26 = .ok (.ireturn, 1) := by decide +kernel
theorem dX7_readLine_27 : decode cX7_readLine 27 = .ok (.aload_n 0, 1) := by decide +kernel
theorem dX7_readLine_28 : decode cX7_readLine 28 = .ok (.getfield 30, 3) := by decide +kernel
theorem dX7_readLine_31 : decode cX7_readLine 31 = .ok (.iload_n 3, 1) := by decide +kernel
theorem dX7_readLine_32 : decode cX7_readLine 32 = .ok (.iadd, 1) := by decide +kernel
theorem dX7_readLine_33 : decode cX7_readLine 33 = .ok (.istore 4, 2) := by decide +kernel
theorem dX7_readLine_35 : decode cX7_readLine 35 = .ok (.aload_n 0, 1) := by decide +kernel
theorem dX7_readLine_36 : decode cX7_readLine 36 = .ok (.iload_n 1, 1) := by decide +kernel
theorem dX7_readLine_37 : decode cX7_readLine 37 = .ok (.iload_n 2, 1) := by decide +kernel
theorem dX7_readLine_38 : decode cX7_readLine 38 = .ok (.invokevirtual 56, 3) := by decide +kernel
theorem dX7_readLine_41 : decode cX7_readLine 41 = .ok (.ifCond .eq 21, 3) := by decide +kernel
theorem dX7_readLine_44 : decode cX7_readLine 44 = .ok (.aload_n 0, 1) := by decide +kernel
theorem dX7_readLine_45 : decode cX7_readLine 45 = .ok (.iload 4, 2) := by decide +kernel
theorem dX7_readLine_47 : decode cX7_readLine 47 = .ok (.iconst 1, 1) := by decide +kernel
theorem dX7_readLine_48 : decode cX7_readLine 48 = .ok (.iadd, 1) := by decide +kernel
theorem dX7_readLine_49 : decode cX7_readLine 49 = .ok (.invokevirtual 60, 3) := by decide +kernel
theorem dX7_readLine_52 : decode cX7_readLine 52 = .ok (.ifCond .eq 10, 3) := by decide +kernel
theorem dX7_readLine_55 : decode cX7_readLine 55 = .ok (.aload_n 0, 1) := by decide +kernel
theorem dX7_readLine_56 : decode cX7_readLine 56 = .ok (.invokevirtual 63, 3) := by decide +kernel
theorem dX7_readLine_59 : decode cX7_readLine 59 = .ok (.ifCond .ne 5, 3) := by decide +kernel
theorem dX7_readLine_62 : decode cX7_readLine 62 = .ok (.iconst 0, 1) := by decide +kernel
theorem dX7_readLine_63 : decode cX7_readLine 63 = .ok (.ireturn, 1) := by decide +kernel
theorem dX7_readLine_64 : decode cX7_readLine 64 = .ok (.aload_n 0, 1) := by decide +kernel
theorem dX7_readLine_65 : decode cX7_readLine 65 = .ok (.bipush 10, 2) := by decide +kernel
theorem dX7_readLine_67 : decode cX7_readLine 67 = .ok (.invokevirtual 52, 3) := by decide +kernel
theorem dX7_readLine_70 : decode cX7_readLine 70 = .ok (.ireturn, 1) := by decide +kernel
theorem dX7_readAddress_0 : decode cX7_readAddress 0 = .ok (.bipush 28, 2) := by decide +kernel
theorem dX7_readAddress_2 : decode cX7_readAddress 2 = .ok (.istore_n 1, 1) := by decide +kernel
theorem dX7_readAddress_3 : decode cX7_readAddress 3 = .ok (.iload_n 1, 1) := by decide +kernel
theorem dX7_readAddress_4 : decode cX7_readAddress 4 = .ok (.ifCond .lt 49, 3) := by decide +kernel
theorem dX7_readAddress_7 : decode cX7_readAddress 7 = .ok (.aload_n 0, 1) := by decide +kernel
theorem dX7_readAddress_8 : decode cX7_readAddress 8 = .ok (.getfield 9, 3) := by decide +kernel
theorem dX7_readAddress_11 : decode cX7_readAddress 11 = .ok (.aload_n 0, 1) := by decide +kernel
theorem dX7_readAddress_12 : decode cX7_readAddress 12 = .ok (.getfield 30, 3) := by decide +kernel
theorem dX7_readAddress_15 : decode cX7_readAddress 15 = .ok (.invokevirtual 66, 3) := by decide +kernel
theorem dX7_readAddress_18 : decode cX7_readAddress 18 = .ok (.bipush 16, 2) := by decide +kernel
theorem dX7_readAddress_20 : decode cX7_readAddress 20 = .ok (.invokestatic 69, 3) := by decide +kernel
theorem dX7_readAddress_23 : decode cX7_readAddress 23 = .ok (.aload_n 0, 1) := by decide +kernel
theorem dX7_readAddress_24 : decode cX7_readAddress 24 = .ok (.getfield 26, 3) := by decide +kernel
theorem dX7_readAddress_27 : decode cX7_readAddress 27 = .ok (.iload_n 1, 1) := by decide +kernel
theorem dX7_readAddress_28 : decode cX7_readAddress 28 = .ok (.iushr, 1) := by decide +kernel
theorem dX7_readAddress_29 : decode cX7_readAddress 29 = .ok (.bipush 15, 2) := by decide +kernel
theorem dX7_readAddress_31 : decode cX7_readAddress 31 = .ok (.iand, 1) := by decide +kernel
theorem dX7_readAddress_32 : decode cX7_readAddress 32 = .ok (.if_icmp .eq 5, 3) := by decide +kernel
theorem dX7_readAddress_35 : decode cX7_readAddress 35 = .ok (.iconst 0, 1) := by decide +kernel
theorem dX7_readAddress_36 : decode cX7_readAddress 36 = .ok (.ireturn, 1) := by decide +kernel
theorem dX7_readAddress_37 : decode cX7_readAddress 37 = .ok (.aload_n 0, 1) := by decide +kernel
theorem dX7_readAddress_38 : decode cX7_readAddress 38 = .ok (.dup, 1) := by decide +kernel
theorem dX7_readAddress_39 : decode cX7_readAddress 39 = .ok (.getfield 30, 3) := by decide +kernel
theorem dX7_readAddress_42 : decode cX7_readAddress 42 = .ok (.iconst 1, 1) := by decide +kernel
theorem dX7_readAddress_43 : decode cX7_readAddress 43 = .ok (.iadd, 1) := by decide +kernel
theorem dX7_readAddress_44 : decode cX7_readAddress 44 = .ok (.putfield 30, 3) := by decide +kernel
theorem dX7_readAddress_47 : decode cX7_readAddress 47 = .ok (.iinc 1 (-4), 3) := by decide +kernel
theorem dX7_readAddress_50 : decode cX7_readAddress 50 = .ok (.goto (-47), 3) := by decide +kernel
theorem dX7_readAddress_53 : decode cX7_readAddress 53 = .ok (.iconst 1, 1) := by decide +kernel
theorem dX7_readAddress_54 : decode cX7_readAddress 54 = .ok (.ireturn, 1) := by decide +kernel
theorem dX7_readPairs_0 : decode cX7_readPairs 0 = .ok (.aload_n 0, 1) := by decide +kernel
theorem dX7_readPairs_1 : decode cX7_readPairs 1 = .ok (.getfield 23, 3) := by decide +kernel
theorem dX7_readPairs_4 : decode cX7_readPairs 4 = .ok (.invokevirtual 37, 3) := by decide +kernel
theorem dX7_readPairs_7 : decode cX7_readPairs 7 = .ok (.iconst 0, 1) := by decide +kernel
theorem dX7_readPairs_8 : decode cX7_readPairs 8 = .ok (.istore_n 3, 1) := by decide +kernel
theorem dX7_readPairs_9 : decode cX7_readPairs 9 = .ok (.iload_n 3, 1) := by decide +kernel
theorem dX7_readPairs_10 : decode cX7_readPairs 10 = .ok (.iload_n 1, 1) := by decide +kernel
theorem dX7_readPairs_11 : decode cX7_readPairs 11 = .ok (.if_icmp .ge 60, 3) := by decide +kernel
theorem dX7_readPairs_14 : decode cX7_readPairs 14 = .ok (.iload_n 3, 1) := by decide +kernel
theorem dX7_readPairs_15 : decode cX7_readPairs 15 = .ok (.ifCond .le 21, 3) := by decide +kernel
theorem dX7_readPairs_18 : decode cX7_readPairs 18 = .ok (.aload_n 0, 1) := by decide +kernel
theorem dX7_readPairs_19 : decode cX7_readPairs 19 = .ok (.getfield 9, 3) := by decide +kernel
theorem dX7_readPairs_22 : decode cX7_readPairs 22 = .ok (.aload_n 0, 1) := by decide +kernel
theorem dX7_readPairs_23 : decode cX7_readPairs 23 = .ok (.getfield 30, 3) := by decide +kernel
theorem dX7_readPairs_26 : decode cX7_readPairs 26 = .ok (.invokevirtual 66, 3) := by decide +kernel
theorem dX7_readPairs_29 : decode cX7_readPairs 29 = .ok (.bipush 32, 2) := by decide +kernel
theorem dX7_readPairs_31 : decode cX7_readPairs 31 = .ok (.if_icmp .ne 5, 3) := by decide +kernel
theorem dX7_readPairs_34 : decode cX7_readPairs 34 = .ok (.iconst 1, 1) := by decide +kernel
theorem dX7_readPairs_35 : decode cX7_readPairs 35 = .ok (.ireturn, 1) := by decide +kernel
theorem dX7_readPairs_36 : decode cX7_readPairs 36 = .ok (.aload_n 0, 1) := by decide +kernel
theorem dX7_readPairs_37 : decode cX7_readPairs 37 = .ok (.invokevirtual 72, 3) := by decide +kernel
theorem dX7_readPairs_40 : decode cX7_readPairs 40 = .ok (.ifCond .ne 5, 3) := by decide +kernel
theorem dX7_readPairs_43 : decode cX7_readPairs 43 = .ok (.iconst 0, 1) := by decide +kernel
theorem dX7_readPairs_44 : decode cX7_readPairs 44 = .ok (.ireturn, 1) := by decide +kernel
theorem dX7_readPairs_45 : decode cX7_readPairs 45 = .ok (.iload_n 3, 1) := by decide +kernel
theorem dX7_readPairs_46 : decode cX7_readPairs 46 = .ok (.iload_n 1, 1) := by decide +kernel
theorem dX7_readPairs_47 : decode cX7_readPairs 47 = .ok (.iload_n 2, 1) := by decide +kernel
theorem dX7_readPairs_48 : decode cX7_readPairs 48 = .ok (.invokestatic 75, 3) := by decide +kernel
theorem dX7_readPairs_51 : decode cX7_readPairs 51 = .ok (.ifCond .eq 14, 3) := by decide +kernel
theorem dX7_readPairs_54 : decode cX7_readPairs 54 = .ok (.aload_n 0, 1) := by decide +kernel
theorem dX7_readPairs_55 : decode cX7_readPairs 55 = .ok (.bipush 32, 2) := by decide +kernel
theorem dX7_readPairs_57 : decode cX7_readPairs 57 = .ok (.invokevirtual 52, 3) := by decide +kernel
theorem dX7_readPairs_60 : decode cX7_readPairs 60 = .ok (.ifCond .ne 5, 3) := by decide +kernel
theorem dX7_readPairs_63 : decode cX7_readPairs 63 = .ok (.iconst 0, 1) := by decide +kernel
theorem dX7_readPairs_64 : decode cX7_readPairs 64 = .ok (.ireturn, 1) := by decide +kernel
theorem dX7_readPairs_65 : decode cX7_readPairs 65 = .ok (.iinc 3 1, 3) := by decide +kernel
theorem dX7_readPairs_68 : decode cX7_readPairs 68 = .ok (.goto (-59), 3) := by decide +kernel
theorem dX7_readPairs_71 : decode cX7_readPairs 71 = .ok (.iconst 1, 1) := by decide +kernel
theorem dX7_readPairs_72 : decode cX7_readPairs 72 = .ok (.ireturn, 1) := by decide +kernel
theorem dX7_readPair_0 : decode cX7_readPair 0 = .ok (.aload_n 0, 1) := by decide +kernel
theorem dX7_readPair_1 : decode cX7_readPair 1 = .ok (.getfield 9, 3) := by decide +kernel
theorem dX7_readPair_4 : decode cX7_readPair 4 = .ok (.aload_n 0, 1) := by decide +kernel
theorem dX7_readPair_5 : decode cX7_readPair 5 = .ok (.getfield 30, 3) := by decide +kernel
theorem dX7_readPair_8 : decode cX7_readPair 8 = .ok (.invokevirtual 66, 3) := by decide +kernel
theorem dX7_readPair_11 : decode cX7_readPair 11 = .ok (.bipush 16, 2) := by decide +kernel
theorem dX7_readPair_13 : decode cX7_readPair 13 = .ok (.invokestatic 69, 3) := by decide +kernel
theorem dX7_readPair_16 : decode cX7_readPair 16 = .ok (.istore_n 1, 1) := by decide +kernel
theorem dX7_readPair_17 : decode cX7_readPair 17 = .ok (.iload_n 1, 1) := by decide +kernel
theorem dX7_readPair_18 : decode cX7_readPair 18 = .ok (.iconst (-1), 1) := by decide +kernel
theorem dX7_readPair_19 : decode cX7_readPair 19 = .ok (.if_icmp .ne 5, 3) := by decide +kernel
theorem dX7_readPair_22 : decode cX7_readPair 22 = .ok (.iconst 0, 1) := by decide +kernel
theorem dX7_readPair_23 : decode cX7_readPair 23 = .ok (.ireturn, 1) := by decide +kernel
theorem dX7_readPair_24 : decode cX7_readPair 24 = .ok (.aload_n 0, 1) := by decide +kernel
theorem dX7_readPair_25 : decode cX7_readPair 25 = .ok (.dup, 1) := by decide +kernel
theorem dX7_readPair_26 : decode cX7_readPair 26 = .ok (.getfield 30, 3) := by decide +kernel
theorem dX7_readPair_29 : decode cX7_readPair 29 = .ok (.iconst 1, 1) := by decide +kernel
theorem dX7_readPair_30 : decode cX7_readPair 30 = .ok (.iadd, 1) := by decide +kernel
theorem dX7_readPair_31 : decode cX7_readPair 31 = .ok (.putfield 30, 3) := by decide +kernel
theorem dX7_readPair_34 : decode cX7_readPair 34 = .ok (.aload_n 0, 1) := by decide +kernel
theorem dX7_readPair_35 : decode cX7_readPair 35 = .ok (.getfield 9, 3) := by decide +kernel
theorem dX7_readPair_38 : decode cX7_readPair 38 = .ok (.aload_n 0, 1) := by decide +kernel
theorem dX7_readPair_39 : decode cX7_readPair 39 = .ok (.getfield 30, 3) := by decide +kernel
theorem dX7_readPair_42 : decode cX7_readPair 42 = .ok (.invokevirtual 66, 3) := by decide +kernel
theorem dX7_readPair_45 : decode cX7_readPair 45 = .ok (.bipush 16, 2) := by decide +kernel
theorem dX7_readPair_47 : decode cX7_readPair 47 = .ok (.invokestatic 69, 3) := by decide +kernel
theorem dX7_readPair_50 : decode cX7_readPair 50 = .ok (.istore_n 2, 1) := by decide +kernel
theorem dX7_readPair_51 : decode cX7_readPair 51 = .ok (.iload_n 2, 1) := by decide +kernel
theorem dX7_readPair_52 : decode cX7_readPair 52 = .ok (.iconst (-1), 1) := by decide +kernel
theorem dX7_readPair_53 : decode cX7_readPair 53 = .ok (.if_icmp .ne 5, 3) := by decide +kernel
theorem dX7_readPair_56 : decode cX7_readPair 56 = .ok (.iconst 0, 1) := by decide +kernel
theorem dX7_readPair_57 : decode cX7_readPair 57 = .ok (.ireturn, 1) := by decide +kernel
theorem dX7_readPair_58 : decode cX7_readPair 58 = .ok (.aload_n 0, 1) := by decide +kernel
theorem dX7_readPair_59 : decode cX7_readPair 59 = .ok (.dup, 1) := by decide +kernel
theorem dX7_readPair_60 : decode cX7_readPair 60 = .ok (.getfield 30, 3) := by decide +kernel
theorem dX7_readPair_63 : decode cX7_readPair 63 = .ok (.iconst 1, 1) := by decide +kernel
theorem dX7_readPair_64 : decode cX7_readPair 64 = .ok (.iadd, 1) := by decide +kernel
theorem dX7_readPair_65 : decode cX7_readPair 65 = .ok (.putfield 30, 3) := by decide +kernel
theorem dX7_readPair_68 : decode cX7_readPair 68 = .ok (.aload_n 0, 1) := by decide +kernel
theorem dX7_readPair_69 : decode cX7_readPair 69 = .ok (.dup, 1) := by decide +kernel
theorem dX7_readPair_70 : decode cX7_readPair 70 = .ok (.getfield 26, 3) := by decide +kernel
theorem dX7_readPair_73 : decode cX7_readPair 73 = .ok (.iconst 1, 1) := by decide +kernel
theorem dX7_readPair_74 : decode cX7_readPair 74 = .ok (.iadd, 1) := by decide +kernel
theorem dX7_readPair_75 : decode cX7_readPair 75 = .ok (.putfield 26, 3) := by decide +kernel
theorem dX7_readPair_78 : decode cX7_readPair 78 = .ok (.aload_n 0, 1) := by decide +kernel
theorem dX7_readPair_79 : decode cX7_readPair 79 = .ok (.getfield 23, 3) := by decide +kernel
theorem dX7_readPair_82 : decode cX7_readPair 82 = .ok (.iload_n 1, 1) := by decide +kernel
theorem dX7_readPair_83 : decode cX7_readPair 83 = .ok (.bipush 16, 2) := by decide +kernel
theorem dX7_readPair_85 : decode cX7_readPair 85 = .ok (.imul, 1) := by decide +kernel
theorem dX7_readPair_86 : decode cX7_readPair 86 = .ok (.iload_n 2, 1) := by decide +kernel
theorem dX7_readPair_87 : decode cX7_readPair 87 = .ok (.iadd, 1) := by decide +kernel
theorem dX7_readPair_88 : decode cX7_readPair 88 = .ok (.invokevirtual 78, 3) := by decide +kernel
theorem dX7_readPair_91 : decode cX7_readPair 91 = .ok (.aload_n 0, 1) := by decide +kernel
theorem dX7_readPair_92 : decode cX7_readPair 92 = .ok (.getfield 20, 3) := by decide +kernel
theorem dX7_readPair_95 : decode cX7_readPair 95 = .ok (.iload_n 1, 1) := by decide +kernel
theorem dX7_readPair_96 : decode cX7_readPair 96 = .ok (.bipush 16, 2) := by decide +kernel
theorem dX7_readPair_98 : decode cX7_readPair 98 = .ok (.imul, 1) := by decide +kernel
theorem dX7_readPair_99 : decode cX7_readPair 99 = .ok (.iload_n 2, 1) := by decide +kernel
theorem dX7_readPair_100 : decode cX7_readPair 100 = .ok (.iadd, 1) := by decide +kernel
theorem dX7_readPair_101 : decode cX7_readPair 101 = .ok (.invokevirtual 78, 3) := by decide +kernel
theorem dX7_readPair_104 : decode cX7_readPair 104 = .ok (.iconst 1, 1) := by decide +kernel
theorem dX7_readPair_105 : decode cX7_readPair 105 = .ok (.ireturn, 1) := by decide +kernel
theorem dX7_readBlanks_0 : decode cX7_readBlanks 0 = .ok (.aload_n 0, 1) := by decide +kernel
theorem dX7_readBlanks_1 : decode cX7_readBlanks 1 = .ok (.getfield 30, 3) := by decide +kernel
theorem dX7_readBlanks_4 : decode cX7_readBlanks 4 = .ok (.iload_n 1, 1) := by decide +kernel
theorem dX7_readBlanks_5 : decode cX7_readBlanks 5 = .ok (.if_icmp .ge 32, 3) := by decide +kernel
theorem dX7_readBlanks_8 : decode cX7_readBlanks 8 = .ok (.aload_n 0, 1) := by decide +kernel
theorem dX7_readBlanks_9 : decode cX7_readBlanks 9 = .ok (.getfield 9, 3) := by decide +kernel
theorem dX7_readBlanks_12 : decode cX7_readBlanks 12 = .ok (.aload_n 0, 1) := by decide +kernel
theorem dX7_readBlanks_13 : decode cX7_readBlanks 13 = .ok (.getfield 30, 3) := by decide +kernel
theorem dX7_readBlanks_16 : decode cX7_readBlanks 16 = .ok (.invokevirtual 66, 3) := by decide +kernel
theorem dX7_readBlanks_19 : decode cX7_readBlanks 19 = .ok (.bipush 32, 2) := by decide +kernel
theorem dX7_readBlanks_21 : decode cX7_readBlanks 21 = .ok (.if_icmp .ne 16, 3) := by decide +kernel
theorem dX7_readBlanks_24 : decode cX7_readBlanks 24 = .ok (.aload_n 0, 1) := by decide +kernel
theorem dX7_readBlanks_25 : decode cX7_readBlanks 25 = .ok (.dup, 1) := by decide +kernel
theorem dX7_readBlanks_26 : decode cX7_readBlanks 26 = .ok (.getfield 30, 3) := by decide +kernel
theorem dX7_readBlanks_29 : decode cX7_readBlanks 29 = .ok (.iconst 1, 1) := by decide +kernel
theorem dX7_readBlanks_30 : decode cX7_readBlanks 30 = .ok (.iadd, 1) := by decide +kernel
theorem dX7_readBlanks_31 : decode cX7_readBlanks 31 = .ok (.putfield 30, 3) := by decide +kernel
theorem dX7_readBlanks_34 : decode cX7_readBlanks 34 = .ok (.goto (-34), 3) := by decide +kernel
theorem dX7_readBlanks_37 : decode cX7_readBlanks 37 = .ok (.aload_n 0, 1) := by decide +kernel
theorem dX7_readBlanks_38 : decode cX7_readBlanks 38 = .ok (.getfield 30, 3) := by decide +kernel
theorem dX7_readBlanks_41 : decode cX7_readBlanks 41 = .ok (.iload_n 1, 1) := by decide +kernel
theorem dX7_readBlanks_42 : decode cX7_readBlanks 42 = .ok (.if_icmp .lt 7, 3) := by decide +kernel
theorem dX7_readBlanks_45 : decode cX7_readBlanks 45 = .ok (.iconst 1, 1) := by decide +kernel
theorem dX7_readBlanks_46 : decode cX7_readBlanks 46 = .ok (.goto 4, 3) := by decide +kernel
theorem dX7_readBlanks_49 : decode cX7_readBlanks 49 = .ok (.iconst 0, 1) := by decide +kernel
theorem dX7_readBlanks_50 : decode cX7_readBlanks 50 = .ok (.ireturn, 1) := by decide +kernel
theorem dX7_readSeen_0 : decode cX7_readSeen 0 = .ok (.iconst 0, 1) := by decide +kernel
theorem dX7_readSeen_1 : decode cX7_readSeen 1 = .ok (.istore_n 1, 1) := by decide +kernel
theorem dX7_readSeen_2 : decode cX7_readSeen 2 = .ok (.iload_n 1, 1) := by decide +kernel
theorem dX7_readSeen_3 : decode cX7_readSeen 3 = .ok (.aload_n 0, 1) := by decide +kernel
theorem dX7_readSeen_4 : decode cX7_readSeen 4 = .ok (.getfield 23, 3) := by decide +kernel
theorem dX7_readSeen_7 : decode cX7_readSeen 7 = .ok (.invokevirtual 40, 3) := by decide +kernel
theorem dX7_readSeen_10 : decode cX7_readSeen 10 = .ok (.if_icmp .ge 29, 3) := by decide +kernel
theorem dX7_readSeen_13 : decode cX7_readSeen 13 = .ok (.aload_n 0, 1) := by decide +kernel
theorem dX7_readSeen_14 : decode cX7_readSeen 14 = .ok (.aload_n 0, 1) := by decide +kernel
theorem dX7_readSeen_15 : decode cX7_readSeen 15 = .ok (.getfield 23, 3) := by decide +kernel
theorem dX7_readSeen_18 : decode cX7_readSeen 18 = .ok (.iload_n 1, 1) := by decide +kernel
theorem dX7_readSeen_19 : decode cX7_readSeen 19 = .ok (.invokevirtual 66, 3) := by decide +kernel
theorem dX7_readSeen_22 : decode cX7_readSeen 22 = .ok (.invokestatic 81, 3) := by decide +kernel
theorem dX7_readSeen_25 : decode cX7_readSeen 25 = .ok (.invokevirtual 52, 3) := by decide +kernel
theorem dX7_readSeen_28 : decode cX7_readSeen 28 = .ok (.ifCond .ne 5, 3) := by decide +kernel
theorem dX7_readSeen_31 : decode cX7_readSeen 31 = .ok (.iconst 0, 1) := by decide +kernel
theorem dX7_readSeen_32 : decode cX7_readSeen 32 = .ok (.ireturn, 1) := by decide +kernel
theorem dX7_readSeen_33 : decode cX7_readSeen 33 = .ok (.iinc 1 1, 3) := by decide +kernel
theorem dX7_readSeen_36 : decode cX7_readSeen 36 = .ok (.goto (-34), 3) := by decide +kernel
theorem dX7_readSeen_39 : decode cX7_readSeen 39 = .ok (.iconst 1, 1) := by decide +kernel
theorem dX7_readSeen_40 : decode cX7_readSeen 40 = .ok (.ireturn, 1) := by decide +kernel
theorem dX7_readOne_0 : decode cX7_readOne 0 = .ok (.aload_n 0, 1) := by decide +kernel
theorem dX7_readOne_1 : decode cX7_readOne 1 = .ok (.getfield 9, 3) := by decide +kernel
theorem dX7_readOne_4 : decode cX7_readOne 4 = .ok (.aload_n 0, 1) := by decide +kernel
theorem dX7_readOne_5 : decode cX7_readOne 5 = .ok (.getfield 30, 3) := by decide +kernel
theorem dX7_readOne_8 : decode cX7_readOne 8 = .ok (.invokevirtual 66, 3) := by decide +kernel
theorem dX7_readOne_11 : decode cX7_readOne 11 = .ok (.iload_n 1, 1) := by decide +kernel
theorem dX7_readOne_12 : decode cX7_readOne 12 = .ok (.if_icmp .eq 5, 3) := by decide +kernel
theorem dX7_readOne_15 : decode cX7_readOne 15 = .ok (.iconst 0, 1) := by decide +kernel
theorem dX7_readOne_16 : decode cX7_readOne 16 = .ok (.ireturn, 1) := by decide +kernel
theorem dX7_readOne_17 : decode cX7_readOne 17 = .ok (.aload_n 0, 1) := by decide +kernel
theorem dX7_readOne_18 : decode cX7_readOne 18 = .ok (.dup, 1) := by decide +kernel
theorem dX7_readOne_19 : decode cX7_readOne 19 = .ok (.getfield 30, 3) := by decide +kernel
theorem dX7_readOne_22 : decode cX7_readOne 22 = .ok (.iconst 1, 1) := by decide +kernel
theorem dX7_readOne_23 : decode cX7_readOne 23 = .ok (.iadd, 1) := by decide +kernel
theorem dX7_readOne_24 : decode cX7_readOne 24 = .ok (.putfield 30, 3) := by decide +kernel
theorem dX7_readOne_27 : decode cX7_readOne 27 = .ok (.iconst 1, 1) := by decide +kernel
theorem dX7_readOne_28 : decode cX7_readOne 28 = .ok (.ireturn, 1) := by decide +kernel
