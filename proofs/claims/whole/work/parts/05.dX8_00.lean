theorem dX8_init_0 : decode cX8_init 0 = .ok (.aload_n 0, 1) := by decide +kernel
theorem dX8_init_1 : decode cX8_init 1 = .ok (.invokespecial 3, 3) := by decide +kernel
theorem dX8_init_4 : decode cX8_init 4 = .ok (.aload_n 0, 1) := by decide +kernel
theorem dX8_init_5 : decode cX8_init 5 = .ok (.aload_n 1, 1) := by decide +kernel
theorem dX8_init_6 : decode cX8_init 6 = .ok (.putfield 9, 3) := by decide +kernel
theorem dX8_init_9 : decode cX8_init 9 = .ok (.aload_n 0, 1) := by decide +kernel
theorem dX8_init_10 : decode cX8_init 10 = .ok (.aload_n 2, 1) := by decide +kernel
theorem dX8_init_11 : decode cX8_init 11 = .ok (.putfield 15, 3) := by decide +kernel
theorem dX8_init_14 : decode cX8_init 14 = .ok (.aload_n 0, 1) := by decide +kernel
theorem dX8_init_15 : decode cX8_init 15 = .ok (.aload_n 3, 1) := by decide +kernel
theorem dX8_init_16 : decode cX8_init 16 = .ok (.putfield 19, 3) := by decide +kernel
theorem dX8_init_19 : decode cX8_init 19 = .ok (.aload_n 0, 1) := by decide +kernel
theorem dX8_init_20 : decode cX8_init 20 = .ok (.new 23, 3) := by decide +kernel
theorem dX8_init_23 : decode cX8_init 23 = .ok (.dup, 1) := by decide +kernel
theorem dX8_init_24 : decode cX8_init 24 = .ok (.invokespecial 25, 3) := by decide +kernel
theorem dX8_init_27 : decode cX8_init 27 = .ok (.putfield 26, 3) := by decide +kernel
theorem dX8_init_30 : decode cX8_init 30 = .ok (.aload_n 0, 1) := by decide +kernel
theorem dX8_init_31 : decode cX8_init 31 = .ok (.new 30, 3) := by decide +kernel
theorem dX8_init_34 : decode cX8_init 34 = .ok (.dup, 1) := by decide +kernel
theorem dX8_init_35 : decode cX8_init 35 = .ok (.invokespecial 32, 3) := by decide +kernel
theorem dX8_init_38 : decode cX8_init 38 = .ok (.putfield 33, 3) := by decide +kernel
theorem dX8_init_41 : decode cX8_init 41 = .ok (.aload_n 0, 1) := by decide +kernel
theorem dX8_init_42 : decode cX8_init 42 = .ok (.new 37, 3) := by decide +kernel
theorem dX8_init_45 : decode cX8_init 45 = .ok (.dup, 1) := by decide +kernel
theorem dX8_init_46 : decode cX8_init 46 = .ok (.bipush 80, 2) := by decide +kernel
theorem dX8_init_48 : decode cX8_init 48 = .ok (.invokespecial 39, 3) := by decide +kernel
theorem dX8_init_51 : decode cX8_init 51 = .ok (.putfield 42, 3) := by decide +kernel
theorem dX8_init_54 : decode cX8_init 54 = .ok (.aload_n 0, 1) := by decide +kernel
theorem dX8_init_55 : decode cX8_init 55 = .ok (.new 37, 3) := by decide +kernel
theorem dX8_init_58 : decode cX8_init 58 = .ok (.dup, 1) := by decide +kernel
theorem dX8_init_59 : decode cX8_init 59 = .ok (.bipush 80, 2) := by decide +kernel
theorem dX8_init_61 : decode cX8_init 61 = .ok (.invokespecial 39, 3) := by decide +kernel
theorem dX8_init_64 : decode cX8_init 64 = .ok (.putfield 45, 3) := by decide +kernel
theorem dX8_init_67 : decode cX8_init 67 = .ok (.aload_n 0, 1) := by decide +kernel
theorem dX8_init_68 : decode cX8_init 68 = .ok (.iconst 0, 1) := by decide +kernel
theorem dX8_init_69 : decode cX8_init 69 = .ok (.putfield 48, 3) := by decide +kernel
theorem dX8_init_72 : decode cX8_init 72 = .ok (.return_, 1) := by decide +kernel
theorem dX8_faultIn_0 : decode cX8_faultIn 0 = .ok (.iconst 0, 1) := by decide +kernel
theorem dX8_faultIn_1 : decode cX8_faultIn 1 = .ok (.istore_n 2, 1) := by decide +kernel
theorem dX8_faultIn_2 : decode cX8_faultIn 2 = .ok (.iconst 0, 1) := by decide +kernel
theorem dX8_faultIn_3 : decode cX8_faultIn 3 = .ok (.istore_n 3, 1) := by decide +kernel
theorem dX8_faultIn_4 : decode cX8_faultIn 4 = .ok (.iload_n 3, 1) := by decide +kernel
theorem dX8_faultIn_5 : decode cX8_faultIn 5 = .ok (.bipush 80, 2) := by decide +kernel
theorem dX8_faultIn_7 : decode cX8_faultIn 7 = .ok (.if_icmp .ge 36, 3) := by decide +kernel
theorem dX8_faultIn_10 : decode cX8_faultIn 10 = .ok (.iload_n 2, 1) := by decide +kernel
theorem dX8_faultIn_11 : decode cX8_faultIn 11 = .ok (.aload_n 1, 1) := by decide +kernel
theorem dX8_faultIn_12 : decode cX8_faultIn 12 = .ok (.invokevirtual 52, 3) := by decide +kernel
theorem dX8_faultIn_15 : decode cX8_faultIn 15 = .ok (.if_icmp .ge 28, 3) := by decide +kernel
theorem dX8_faultIn_18 : decode cX8_faultIn 18 = .ok (.aload_n 0, 1) := by decide +kernel
theorem dX8_faultIn_19 : decode cX8_faultIn 19 = .ok (.aload_n 1, 1) := by decide +kernel
theorem dX8_faultIn_20 : decode cX8_faultIn 20 = .ok (.iload_n 2, 1) := by decide +kernel
theorem dX8_faultIn_21 : decode cX8_faultIn 21 = .ok (.invokevirtual 56, 3) := by decide +kernel
theorem dX8_faultIn_24 : decode cX8_faultIn 24 = .ok (.istore 4, 2) := by decide +kernel
theorem dX8_faultIn_26 : decode cX8_faultIn 26 = .ok (.iload 4, 2) := by decide +kernel
theorem dX8_faultIn_28 : decode cX8_faultIn 28 = .ok (.iconst (-1), 1) := by decide +kernel
theorem dX8_faultIn_29 : decode cX8_faultIn 29 = .ok (.if_icmp .ne 5, 3) := by decide +kernel
theorem dX8_faultIn_32 : decode cX8_faultIn 32 = .ok (.iload_n 2, 1) := by decide +kernel
theorem dX8_faultIn_33 : decode cX8_faultIn 33 = .ok (.ireturn, 1) := by decide +kernel
theorem dX8_faultIn_34 : decode cX8_faultIn 34 = .ok (.iload 4, 2) := by decide +kernel
theorem dX8_faultIn_36 : decode cX8_faultIn 36 = .ok (.istore_n 2, 1) := by decide +kernel
theorem dX8_faultIn_37 : decode cX8_faultIn 37 = .ok (.iinc 3 1, 3) := by decide +kernel
theorem dX8_faultIn_40 : decode cX8_faultIn 40 = .ok (.goto (-36), 3) := by decide +kernel
theorem dX8_faultIn_43 : decode cX8_faultIn 43 = .ok (.iconst (-1), 1) := by decide +kernel
theorem dX8_faultIn_44 : decode cX8_faultIn 44 = .ok (.ireturn, 1) := by decide +kernel
theorem dX8_begin_0 : decode cX8_begin 0 = .ok (.aload_n 0, 1) := by decide +kernel
theorem dX8_begin_1 : decode cX8_begin 1 = .ok (.getfield 9, 3) := by decide +kernel
theorem dX8_begin_4 : decode cX8_begin 4 = .ok (.invokevirtual 60, 3) := by decide +kernel
theorem dX8_begin_7 : decode cX8_begin 7 = .ok (.aload_n 0, 1) := by decide +kernel
theorem dX8_begin_8 : decode cX8_begin 8 = .ok (.getfield 15, 3) := by decide +kernel
theorem dX8_begin_11 : decode cX8_begin 11 = .ok (.invokevirtual 63, 3) := by decide +kernel
theorem dX8_begin_14 : decode cX8_begin 14 = .ok (.aload_n 0, 1) := by decide +kernel
theorem dX8_begin_15 : decode cX8_begin 15 = .ok (.iconst 0, 1) := by decide +kernel
theorem dX8_begin_16 : decode cX8_begin 16 = .ok (.putfield 48, 3) := by decide +kernel
theorem dX8_begin_19 : decode cX8_begin 19 = .ok (.return_, 1) := by decide +kernel
theorem dX8_hasEnded_0 : decode cX8_hasEnded 0 = .ok (.aload_n 0, 1) := by decide +kernel
theorem dX8_hasEnded_1 : decode cX8_hasEnded 1 = .ok (.getfield 48, 3) := by decide +kernel
theorem dX8_hasEnded_4 : decode cX8_hasEnded 4 = .ok (.ireturn, 1) := by decide +kernel
theorem dX8_printOnce_0 : decode cX8_printOnce 0 = .ok (.iconst 0, 1) := by decide +kernel
theorem dX8_printOnce_1 : decode cX8_printOnce 1 = .ok (.istore_n 2, 1) := by decide +kernel
theorem dX8_printOnce_2 : decode cX8_printOnce 2 = .ok (.iconst 0, 1) := by decide +kernel
theorem dX8_printOnce_3 : decode cX8_printOnce 3 = .ok (.istore_n 3, 1) := by decide +kernel
theorem dX8_printOnce_4 : decode cX8_printOnce 4 = .ok (.iload_n 3, 1) := by decide +kernel
theorem dX8_printOnce_5 : decode cX8_printOnce 5 = .ok (.bipush 80, 2) := by decide +kernel
theorem dX8_printOnce_7 : decode cX8_printOnce 7 = .ok (.if_icmp .ge 108, 3) := by decide +kernel
theorem dX8_printOnce_10 : decode cX8_printOnce 10 = .ok (.iload_n 2, 1) := by decide +kernel
theorem dX8_printOnce_11 : decode cX8_printOnce 11 = .ok (.aload_n 1, 1) := by decide +kernel
theorem dX8_printOnce_12 : decode cX8_printOnce 12 = .ok (.invokevirtual 52, 3) := by decide +kernel
theorem dX8_printOnce_15 : decode cX8_printOnce 15 = .ok (.if_icmp .ge 100, 3) := by decide +kernel
theorem dX8_printOnce_18 : decode cX8_printOnce 18 = .ok (.aload_n 0, 1) := by decide +kernel
theorem dX8_printOnce_19 : decode cX8_printOnce 19 = .ok (.getfield 48, 3) := by decide +kernel
theorem dX8_printOnce_22 : decode cX8_printOnce 22 = .ok (.ifCond .ne 93, 3) := by decide +kernel
theorem dX8_printOnce_25 : decode cX8_printOnce 25 = .ok (.aload_n 1, 1) := by decide +kernel
theorem dX8_printOnce_26 : decode cX8_printOnce 26 = .ok (.iload_n 2, 1) := by decide +kernel
theorem dX8_printOnce_27 : decode cX8_printOnce 27 = .ok (.invokevirtual 68, 3) := by decide +kernel
theorem dX8_printOnce_30 : decode cX8_printOnce 30 = .ok (.istore 4, 2) := by decide +kernel
theorem dX8_printOnce_32 : decode cX8_printOnce 32 = .ok (.aload_n 0, 1) := by decide +kernel
theorem dX8_printOnce_33 : decode cX8_printOnce 33 = .ok (.aload_n 1, 1) := by decide +kernel
theorem dX8_printOnce_34 : decode cX8_printOnce 34 = .ok (.iload_n 2, 1) := by decide +kernel
theorem dX8_printOnce_35 : decode cX8_printOnce 35 = .ok (.invokevirtual 56, 3) := by decide +kernel
theorem dX8_printOnce_38 : decode cX8_printOnce 38 = .ok (.istore 5, 2) := by decide +kernel
theorem dX8_printOnce_40 : decode cX8_printOnce 40 = .ok (.iload 5, 2) := by decide +kernel
theorem dX8_printOnce_42 : decode cX8_printOnce 42 = .ok (.iconst (-1), 1) := by decide +kernel
theorem dX8_printOnce_43 : decode cX8_printOnce 43 = .ok (.if_icmp .ne 4, 3) := by decide +kernel
theorem dX8_printOnce_46 : decode cX8_printOnce 46 = .ok (.return_, 1) := by decide +kernel
theorem dX8_printOnce_47 : decode cX8_printOnce 47 = .ok (.iload 4, 2) := by decide +kernel
theorem dX8_printOnce_49 : decode cX8_printOnce 49 = .ok (.bipush 92, 2) := by decide +kernel
theorem dX8_printOnce_51 : decode cX8_printOnce 51 = .ok (.if_icmp .ne 20, 3) := by decide +kernel
theorem dX8_printOnce_54 : decode cX8_printOnce 54 = .ok (.aload_n 0, 1) := by decide +kernel
theorem dX8_printOnce_55 : decode cX8_printOnce 55 = .ok (.getfield 9, 3) := by decide +kernel
theorem dX8_printOnce_58 : decode cX8_printOnce 58 = .ok (.aload_n 0, 1) := by decide +kernel
theorem dX8_printOnce_59 : decode cX8_printOnce 59 = .ok (.getfield 26, 3) := by decide +kernel
theorem dX8_printOnce_62 : decode cX8_printOnce 62 = .ok (.invokevirtual 72, 3) := by decide +kernel
theorem dX8_printOnce_65 : decode cX8_printOnce 65 = .ok (.invokevirtual 75, 3) := by decide +kernel
theorem dX8_printOnce_68 : decode cX8_printOnce 68 = .ok (.goto 38, 3) := by decide +kernel
theorem dX8_printOnce_71 : decode cX8_printOnce 71 = .ok (.iload 4, 2) := by decide +kernel
theorem dX8_printOnce_73 : decode cX8_printOnce 73 = .ok (.bipush 37, 2) := by decide +kernel
theorem dX8_printOnce_75 : decode cX8_printOnce 75 = .ok (.if_icmp .ne 22, 3) := by decide +kernel
theorem dX8_printOnce_78 : decode cX8_printOnce 78 = .ok (.aload_n 1, 1) := by decide +kernel
theorem dX8_printOnce_79 : decode cX8_printOnce 79 = .ok (.iload_n 2, 1) := by decide +kernel
theorem dX8_printOnce_80 : decode cX8_printOnce 80 = .ok (.iconst 1, 1) := by decide +kernel
theorem dX8_printOnce_81 : decode cX8_printOnce 81 = .ok (.iadd, 1) := by decide +kernel
theorem dX8_printOnce_82 : decode cX8_printOnce 82 = .ok (.invokevirtual 68, 3) := by decide +kernel
theorem dX8_printOnce_85 : decode cX8_printOnce 85 = .ok (.bipush 37, 2) := by decide +kernel
theorem dX8_printOnce_87 : decode cX8_printOnce 87 = .ok (.if_icmp .eq 10, 3) := by decide +kernel
theorem dX8_printOnce_90 : decode cX8_printOnce 90 = .ok (.aload_n 0, 1) := by decide +kernel
theorem dX8_printOnce_91 : decode cX8_printOnce 91 = .ok (.invokevirtual 78, 3) := by decide +kernel
theorem dX8_printOnce_94 : decode cX8_printOnce 94 = .ok (.goto 12, 3) := by decide +kernel
theorem dX8_printOnce_97 : decode cX8_printOnce 97 = .ok (.aload_n 0, 1) := by decide +kernel
theorem dX8_printOnce_98 : decode cX8_printOnce 98 = .ok (.getfield 9, 3) := by decide +kernel
theorem dX8_printOnce_101 : decode cX8_printOnce 101 = .ok (.iload 4, 2) := by decide +kernel
theorem dX8_printOnce_103 : decode cX8_printOnce 103 = .ok (.invokevirtual 75, 3) := by decide +kernel
theorem dX8_printOnce_106 : decode cX8_printOnce 106 = .ok (.iload 5, 2) := by decide +kernel
theorem dX8_printOnce_108 : decode cX8_printOnce 108 = .ok (.istore_n 2, 1) := by decide +kernel
theorem dX8_printOnce_109 : decode cX8_printOnce 109 = .ok (.iinc 3 1, 3) := by decide +kernel
theorem dX8_printOnce_112 : decode cX8_printOnce 112 = .ok (.goto (-108), 3) := by decide +kernel
theorem dX8_printOnce_115 : decode cX8_printOnce 115 = .ok (.return_, 1) := by decide +kernel
theorem dX8_readPiece_0 : decode cX8_readPiece 0 = .ok (.aload_n 1, 1) := by decide +kernel
theorem dX8_readPiece_1 : decode cX8_readPiece 1 = .ok (.iload_n 2, 1) := by decide +kernel
theorem dX8_readPiece_2 : decode cX8_readPiece 2 = .ok (.invokevirtual 68, 3) := by decide +kernel
theorem dX8_readPiece_5 : decode cX8_readPiece 5 = .ok (.istore_n 3, 1) := by decide +kernel
theorem dX8_readPiece_6 : decode cX8_readPiece 6 = .ok (.iload_n 3, 1) := by decide +kernel
theorem dX8_readPiece_7 : decode cX8_readPiece 7 = .ok (.bipush 92, 2) := by decide +kernel
theorem dX8_readPiece_9 : decode cX8_readPiece 9 = .ok (.if_icmp .ne 29, 3) := by decide +kernel
theorem dX8_readPiece_12 : decode cX8_readPiece 12 = .ok (.aload_n 0, 1) := by decide +kernel
theorem dX8_readPiece_13 : decode cX8_readPiece 13 = .ok (.getfield 26, 3) := by decide +kernel
theorem dX8_readPiece_16 : decode cX8_readPiece 16 = .ok (.aload_n 1, 1) := by decide +kernel
theorem dX8_readPiece_17 : decode cX8_readPiece 17 = .ok (.iload_n 2, 1) := by decide +kernel
theorem dX8_readPiece_18 : decode cX8_readPiece 18 = .ok (.iconst 1, 1) := by decide +kernel
theorem dX8_readPiece_19 : decode cX8_readPiece 19 = .ok (.iadd, 1) := by decide +kernel
theorem dX8_readPiece_20 : decode cX8_readPiece 20 = .ok (.invokevirtual 81, 3) := by decide +kernel
theorem dX8_readPiece_23 : decode cX8_readPiece 23 = .ok (.ifCond .eq 13, 3) := by decide +kernel
theorem dX8_readPiece_26 : decode cX8_readPiece 26 = .ok (.aload_n 0, 1) := by decide +kernel
theorem dX8_readPiece_27 : decode cX8_readPiece 27 = .ok (.getfield 26, 3) := by decide +kernel
theorem dX8_readPiece_30 : decode cX8_readPiece 30 = .ok (.invokevirtual 85, 3) := by decide +kernel
theorem dX8_readPiece_33 : decode cX8_readPiece 33 = .ok (.goto 4, 3) := by decide +kernel
theorem dX8_readPiece_36 : decode cX8_readPiece 36 = .ok (.iconst (-1), 1) := by decide +kernel
theorem dX8_readPiece_37 : decode cX8_readPiece 37 = .ok (.ireturn, 1) := by decide +kernel
theorem dX8_readPiece_38 : decode cX8_readPiece 38 = .ok (.iload_n 3, 1) := by decide +kernel
theorem dX8_readPiece_39 : decode cX8_readPiece 39 = .ok (.bipush 37, 2) := by decide +kernel
theorem dX8_readPiece_41 : decode cX8_readPiece 41 = .ok (.if_icmp .eq 7, 3) := by decide +kernel
theorem dX8_readPiece_44 : decode cX8_readPiece 44 = .ok (.iload_n 2, 1) := by decide +kernel
theorem dX8_readPiece_45 : decode cX8_readPiece 45 = .ok (.iconst 1, 1) := by decide +kernel
theorem dX8_readPiece_46 : decode cX8_readPiece 46 = .ok (.iadd, 1) := by decide +kernel
theorem dX8_readPiece_47 : decode cX8_readPiece 47 = .ok (.ireturn, 1) := by decide +kernel
theorem dX8_readPiece_48 : decode cX8_readPiece 48 = .ok (.aload_n 1, 1) := by decide +kernel
theorem dX8_readPiece_49 : decode cX8_readPiece 49 = .ok (.iload_n 2, 1) := by decide +kernel
theorem dX8_readPiece_50 : decode cX8_readPiece 50 = .ok (.iconst 1, 1) := by decide +kernel
theorem dX8_readPiece_51 : decode cX8_readPiece 51 = .ok (.iadd, 1) := by decide +kernel
theorem dX8_readPiece_52 : decode cX8_readPiece 52 = .ok (.invokevirtual 68, 3) := by decide +kernel
theorem dX8_readPiece_55 : decode cX8_readPiece 55 = .ok (.bipush 37, 2) := by decide +kernel
theorem dX8_readPiece_57 : decode cX8_readPiece 57 = .ok (.if_icmp .ne 7, 3) := by decide +kernel
theorem dX8_readPiece_60 : decode cX8_readPiece 60 = .ok (.iload_n 2, 1) := by decide +kernel
theorem dX8_readPiece_61 : decode cX8_readPiece 61 = .ok (.iconst 2, 1) := by decide +kernel
theorem dX8_readPiece_62 : decode cX8_readPiece 62 = .ok (.iadd, 1) := by decide +kernel
theorem dX8_readPiece_63 : decode cX8_readPiece 63 = .ok (.ireturn, 1) := by decide +kernel
theorem dX8_readPiece_64 : decode cX8_readPiece 64 = .ok (.aload_n 0, 1) := by decide +kernel
theorem dX8_readPiece_65 : decode cX8_readPiece 65 = .ok (.getfield 33, 3) := by decide +kernel
theorem dX8_readPiece_68 : decode cX8_readPiece 68 = .ok (.aload_n 1, 1) := by decide +kernel
theorem dX8_readPiece_69 : decode cX8_readPiece 69 = .ok (.iload_n 2, 1) := by decide +kernel
theorem dX8_readPiece_70 : decode cX8_readPiece 70 = .ok (.iconst 1, 1) := by decide +kernel
theorem dX8_readPiece_71 : decode cX8_readPiece 71 = .ok (.iadd, 1) := by decide +kernel
theorem dX8_readPiece_72 : decode cX8_readPiece 72 = .ok (.invokevirtual 88, 3) := by decide +kernel
theorem dX8_readPiece_75 : decode cX8_readPiece 75 = .ok (.ifCond .eq 13, 3) := by decide +kernel
theorem dX8_readPiece_78 : decode cX8_readPiece 78 = .ok (.aload_n 0, 1) := by decide +kernel
theorem dX8_readPiece_79 : decode cX8_readPiece 79 = .ok (.getfield 33, 3) := by decide +kernel
theorem dX8_readPiece_82 : decode cX8_readPiece 82 = .ok (.getfield 91, 3) := by decide +kernel
theorem dX8_readPiece_85 : decode cX8_readPiece 85 = .ok (.goto 4, 3) := by decide +kernel
theorem dX8_readPiece_88 : decode cX8_readPiece 88 = .ok (.iconst (-1), 1) := by decide +kernel
theorem dX8_readPiece_89 : decode cX8_readPiece 89 = .ok (.ireturn, 1) := by decide +kernel
theorem dX8_printDirective_0 : decode cX8_printDirective 0 = .ok (.aload_n 0, 1) := by decide +kernel
theorem dX8_printDirective_1 : decode cX8_printDirective 1 = .ok (.getfield 33, 3) := by decide +kernel
theorem dX8_printDirective_4 : decode cX8_printDirective 4 = .ok (.getfield 94, 3) := by decide +kernel
theorem dX8_printDirective_7 : decode cX8_printDirective 7 = .ok (.ifCond .eq 17, 3) := by decide +kernel
theorem dX8_printDirective_10 : decode cX8_printDirective 10 = .ok (.aload_n 0, 1) := by decide +kernel
theorem dX8_printDirective_11 : decode cX8_printDirective 11 = .ok (.getfield 33, 3) := by decide +kernel
theorem dX8_printDirective_14 : decode cX8_printDirective 14 = .ok (.aload_n 0, 1) := by decide +kernel
theorem dX8_printDirective_15 : decode cX8_printDirective 15 = .ok (.getfield 15, 3) := by decide +kernel
theorem dX8_printDirective_18 : decode cX8_printDirective 18 = .ok (.invokevirtual 97, 3) := by decide +kernel
theorem dX8_printDirective_21 : decode cX8_printDirective 21 = .ok (.invokevirtual 101, 3) := by decide +kernel
theorem dX8_printDirective_24 : decode cX8_printDirective 24 = .ok (.aload_n 0, 1) := by decide +kernel
theorem dX8_printDirective_25 : decode cX8_printDirective 25 = .ok (.getfield 33, 3) := by decide +kernel
theorem dX8_printDirective_28 : decode cX8_printDirective 28 = .ok (.getfield 105, 3) := by decide +kernel
theorem dX8_printDirective_31 : decode cX8_printDirective 31 = .ok (.ifCond .eq 17, 3) := by decide +kernel
theorem dX8_printDirective_34 : decode cX8_printDirective 34 = .ok (.aload_n 0, 1) := by decide +kernel
theorem dX8_printDirective_35 : decode cX8_printDirective 35 = .ok (.getfield 33, 3) := by decide +kernel
theorem dX8_printDirective_38 : decode cX8_printDirective 38 = .ok (.aload_n 0, 1) := by decide +kernel
theorem dX8_printDirective_39 : decode cX8_printDirective 39 = .ok (.getfield 15, 3) := by decide +kernel
theorem dX8_printDirective_42 : decode cX8_printDirective 42 = .ok (.invokevirtual 97, 3) := by decide +kernel
theorem dX8_printDirective_45 : decode cX8_printDirective 45 = .ok (.invokevirtual 108, 3) := by decide +kernel
theorem dX8_printDirective_48 : decode cX8_printDirective 48 = .ok (.aload_n 0, 1) := by decide +kernel
theorem dX8_printDirective_49 : decode cX8_printDirective 49 = .ok (.getfield 33, 3) := by decide +kernel
theorem dX8_printDirective_52 : decode cX8_printDirective 52 = .ok (.getfield 111, 3) := by decide +kernel
theorem dX8_printDirective_55 : decode cX8_printDirective 55 = .ok (.lookupswitch 99 #[(98, 73), (99, 33), (115, 51)], 33) := by decide +kernel
theorem dX8_printDirective_88 : decode cX8_printDirective 88 = .ok (.aload_n 0, 1) := by decide +kernel
theorem dX8_printDirective_89 : decode cX8_printDirective 89 = .ok (.aload_n 0, 1) := by decide +kernel
theorem dX8_printDirective_90 : decode cX8_printDirective 90 = .ok (.getfield 15, 3) := by decide +kernel
theorem dX8_printDirective_93 : decode cX8_printDirective 93 = .ok (.invokevirtual 114, 3) := by decide +kernel
theorem dX8_printDirective_96 : decode cX8_printDirective 96 = .ok (.invokevirtual 118, 3) := by decide +kernel
theorem dX8_printDirective_99 : decode cX8_printDirective 99 = .ok (.aload_n 0, 1) := by decide +kernel
theorem dX8_printDirective_100 : decode cX8_printDirective 100 = .ok (.invokevirtual 122, 3) := by decide +kernel
theorem dX8_printDirective_103 : decode cX8_printDirective 103 = .ok (.goto 62, 3) := by decide +kernel
theorem dX8_printDirective_106 : decode cX8_printDirective 106 = .ok (.aload_n 0, 1) := by decide +kernel
theorem dX8_printDirective_107 : decode cX8_printDirective 107 = .ok (.aload_n 0, 1) := by decide +kernel
theorem dX8_printDirective_108 : decode cX8_printDirective 108 = .ok (.getfield 15, 3) := by decide +kernel
theorem dX8_printDirective_111 : decode cX8_printDirective 111 = .ok (.invokevirtual 114, 3) := by decide +kernel
theorem dX8_printDirective_114 : decode cX8_printDirective 114 = .ok (.invokevirtual 125, 3) := by decide +kernel
theorem dX8_printDirective_117 : decode cX8_printDirective 117 = .ok (.aload_n 0, 1) := by decide +kernel
theorem dX8_printDirective_118 : decode cX8_printDirective 118 = .ok (.invokevirtual 128, 3) := by decide +kernel
theorem dX8_printDirective_121 : decode cX8_printDirective 121 = .ok (.aload_n 0, 1) := by decide +kernel
theorem dX8_printDirective_122 : decode cX8_printDirective 122 = .ok (.invokevirtual 122, 3) := by decide +kernel
theorem dX8_printDirective_125 : decode cX8_printDirective 125 = .ok (.goto 40, 3) := by decide +kernel
theorem dX8_printDirective_128 : decode cX8_printDirective 128 = .ok (.aload_n 0, 1) := by decide +kernel
theorem dX8_printDirective_129 : decode cX8_printDirective 129 = .ok (.aload_n 0, 1) := by decide +kernel
theorem dX8_printDirective_130 : decode cX8_printDirective 130 = .ok (.getfield 15, 3) := by decide +kernel
theorem dX8_printDirective_133 : decode cX8_printDirective 133 = .ok (.invokevirtual 114, 3) := by decide +kernel
theorem dX8_printDirective_136 : decode cX8_printDirective 136 = .ok (.invokevirtual 125, 3) := by decide +kernel
theorem dX8_printDirective_139 : decode cX8_printDirective 139 = .ok (.aload_n 0, 1) := by decide +kernel
theorem dX8_printDirective_140 : decode cX8_printDirective 140 = .ok (.invokevirtual 131, 3) := by decide +kernel
theorem dX8_printDirective_143 : decode cX8_printDirective 143 = .ok (.aload_n 0, 1) := by decide +kernel
theorem dX8_printDirective_144 : decode cX8_printDirective 144 = .ok (.invokevirtual 128, 3) := by decide +kernel
theorem dX8_printDirective_147 : decode cX8_printDirective 147 = .ok (.aload_n 0, 1) := by decide +kernel
theorem dX8_printDirective_148 : decode cX8_printDirective 148 = .ok (.invokevirtual 122, 3) := by decide +kernel
theorem dX8_printDirective_151 : decode cX8_printDirective 151 = .ok (.goto 14, 3) := by decide +kernel
theorem dX8_printDirective_154 : decode cX8_printDirective 154 = .ok (.aload_n 0, 1) := by decide +kernel
theorem dX8_printDirective_155 : decode cX8_printDirective 155 = .ok (.aload_n 0, 1) := by decide +kernel
theorem dX8_printDirective_156 : decode cX8_printDirective 156 = .ok (.getfield 15, 3) := by decide +kernel
theorem dX8_printDirective_159 : decode cX8_printDirective 159 = .ok (.invokevirtual 97, 3) := by decide +kernel
theorem dX8_printDirective_162 : decode cX8_printDirective 162 = .ok (.invokevirtual 134, 3) := by decide +kernel
theorem dX8_printDirective_165 : decode cX8_printDirective 165 = .ok (.return_, 1) := by decide +kernel
theorem dX8_loadCharacter_0 : decode cX8_loadCharacter 0 = .ok (.aload_n 0, 1) := by decide +kernel
theorem dX8_loadCharacter_1 : decode cX8_loadCharacter 1 = .ok (.getfield 42, 3) := by decide +kernel
theorem dX8_loadCharacter_4 : decode cX8_loadCharacter 4 = .ok (.invokevirtual 60, 3) := by decide +kernel
theorem dX8_loadCharacter_7 : decode cX8_loadCharacter 7 = .ok (.aload_n 1, 1) := by decide +kernel
theorem dX8_loadCharacter_8 : decode cX8_loadCharacter 8 = .ok (.ifnonnull 4, 3) := by decide +kernel
theorem dX8_loadCharacter_11 : decode cX8_loadCharacter 11 = .ok (.return_, 1) := by decide +kernel
theorem dX8_loadCharacter_12 : decode cX8_loadCharacter 12 = .ok (.aload_n 1, 1) := by decide +kernel
theorem dX8_loadCharacter_13 : decode cX8_loadCharacter 13 = .ok (.getfield 137, 3) := by decide +kernel
theorem dX8_loadCharacter_16 : decode cX8_loadCharacter 16 = .ok (.ifCond .ne 18, 3) := by decide +kernel
theorem dX8_loadCharacter_19 : decode cX8_loadCharacter 19 = .ok (.aload_n 0, 1) := by decide +kernel
theorem dX8_loadCharacter_20 : decode cX8_loadCharacter 20 = .ok (.getfield 42, 3) := by decide +kernel
theorem dX8_loadCharacter_23 : decode cX8_loadCharacter 23 = .ok (.aload_n 1, 1) := by decide +kernel
theorem dX8_loadCharacter_24 : decode cX8_loadCharacter 24 = .ok (.getfield 142, 3) := by decide +kernel
theorem dX8_loadCharacter_27 : decode cX8_loadCharacter 27 = .ok (.l2i, 1) := by decide +kernel
theorem dX8_loadCharacter_28 : decode cX8_loadCharacter 28 = .ok (.invokevirtual 75, 3) := by decide +kernel
theorem dX8_loadCharacter_31 : decode cX8_loadCharacter 31 = .ok (.goto 28, 3) := by decide +kernel
theorem dX8_loadCharacter_34 : decode cX8_loadCharacter 34 = .ok (.aload_n 1, 1) := by decide +kernel
theorem dX8_loadCharacter_35 : decode cX8_loadCharacter 35 = .ok (.getfield 145, 3) := by decide +kernel
theorem dX8_loadCharacter_38 : decode cX8_loadCharacter 38 = .ok (.invokevirtual 52, 3) := by decide +kernel
theorem dX8_loadCharacter_41 : decode cX8_loadCharacter 41 = .ok (.ifCond .le 18, 3) := by decide +kernel
theorem dX8_loadCharacter_44 : decode cX8_loadCharacter 44 = .ok (.aload_n 0, 1) := by decide +kernel
theorem dX8_loadCharacter_45 : decode cX8_loadCharacter 45 = .ok (.getfield 42, 3) := by decide +kernel
theorem dX8_loadCharacter_48 : decode cX8_loadCharacter 48 = .ok (.aload_n 1, 1) := by decide +kernel
theorem dX8_loadCharacter_49 : decode cX8_loadCharacter 49 = .ok (.getfield 145, 3) := by decide +kernel
theorem dX8_loadCharacter_52 : decode cX8_loadCharacter 52 = .ok (.iconst 0, 1) := by decide +kernel
theorem dX8_loadCharacter_53 : decode cX8_loadCharacter 53 = .ok (.invokevirtual 68, 3) := by decide +kernel
theorem dX8_loadCharacter_56 : decode cX8_loadCharacter 56 = .ok (.invokevirtual 75, 3) := by decide +kernel
theorem dX8_loadCharacter_59 : decode cX8_loadCharacter 59 = .ok (.return_, 1) := by decide +kernel
theorem dX8_loadText_0 : decode cX8_loadText 0 = .ok (.aload_n 0, 1) := by decide +kernel
theorem dX8_loadText_1 : decode cX8_loadText 1 = .ok (.getfield 42, 3) := by decide +kernel
theorem dX8_loadText_4 : decode cX8_loadText 4 = .ok (.invokevirtual 60, 3) := by decide +kernel
theorem dX8_loadText_7 : decode cX8_loadText 7 = .ok (.aload_n 1, 1) := by decide +kernel
theorem dX8_loadText_8 : decode cX8_loadText 8 = .ok (.ifnonnull 4, 3) := by decide +kernel
theorem dX8_loadText_11 : decode cX8_loadText 11 = .ok (.return_, 1) := by decide +kernel
theorem dX8_loadText_12 : decode cX8_loadText 12 = .ok (.aload_n 1, 1) := by decide +kernel
theorem dX8_loadText_13 : decode cX8_loadText 13 = .ok (.getfield 137, 3) := by decide +kernel
theorem dX8_loadText_16 : decode cX8_loadText 16 = .ok (.ifCond .eq 17, 3) := by decide +kernel
theorem dX8_loadText_19 : decode cX8_loadText 19 = .ok (.aload_n 0, 1) := by decide +kernel
theorem dX8_loadText_20 : decode cX8_loadText 20 = .ok (.getfield 42, 3) := by decide +kernel
theorem dX8_loadText_23 : decode cX8_loadText 23 = .ok (.aload_n 1, 1) := by decide +kernel
theorem dX8_loadText_24 : decode cX8_loadText 24 = .ok (.getfield 145, 3) := by decide +kernel
theorem dX8_loadText_27 : decode cX8_loadText 27 = .ok (.invokevirtual 148, 3) := by decide +kernel
theorem dX8_loadText_30 : decode cX8_loadText 30 = .ok (.goto 11, 3) := by decide +kernel
theorem dX8_loadText_33 : decode cX8_loadText 33 = .ok (.aload_n 0, 1) := by decide +kernel
theorem dX8_loadText_34 : decode cX8_loadText 34 = .ok (.aload_n 1, 1) := by decide +kernel
theorem dX8_loadText_35 : decode cX8_loadText 35 = .ok (.getfield 142, 3) := by decide +kernel
theorem dX8_loadText_38 : decode cX8_loadText 38 = .ok (.invokevirtual 152, 3) := by decide +kernel
theorem dX8_loadText_41 : decode cX8_loadText 41 = .ok (.return_, 1) := by decide +kernel
theorem dX8_loadNumber_0 : decode cX8_loadNumber 0 = .ok (.lload_n 1, 1) := by decide +kernel
theorem dX8_loadNumber_1 : decode cX8_loadNumber 1 = .ok (.lconst 0, 1) := by decide +kernel
theorem dX8_loadNumber_2 : decode cX8_loadNumber 2 = .ok (.lcmp, 1) := by decide +kernel
theorem dX8_loadNumber_3 : decode cX8_loadNumber 3 = .ok (.ifCond .ge 12, 3) := by decide +kernel
theorem dX8_loadNumber_6 : decode cX8_loadNumber 6 = .ok (.aload_n 0, 1) := by decide +kernel
theorem dX8_loadNumber_7 : decode cX8_loadNumber 7 = .ok (.getfield 42, 3) := by decide +kernel
theorem dX8_loadNumber_10 : decode cX8_loadNumber 10 = .ok (.bipush 45, 2) := by decide +kernel
theorem dX8_loadNumber_12 : decode cX8_loadNumber 12 = .ok (.invokevirtual 75, 3) := by decide +kernel
theorem dX8_loadNumber_15 : decode cX8_loadNumber 15 = .ok (.aload_n 0, 1) := by decide +kernel
theorem dX8_loadNumber_16 : decode cX8_loadNumber 16 = .ok (.getfield 19, 3) := by decide +kernel
theorem dX8_loadNumber_19 : decode cX8_loadNumber 19 = .ok (.lload_n 1, 1) := by decide +kernel
theorem dX8_loadNumber_20 : decode cX8_loadNumber 20 = .ok (.lconst 0, 1) := by decide +kernel
theorem dX8_loadNumber_21 : decode cX8_loadNumber 21 = .ok (.lcmp, 1) := by decide +kernel
theorem dX8_loadNumber_22 : decode cX8_loadNumber 22 = .ok (.ifCond .ge 8, 3) := by decide +kernel
theorem dX8_loadNumber_25 : decode cX8_loadNumber 25 = .ok (.lload_n 1, 1) := by decide +kernel
theorem dX8_loadNumber_26 : decode cX8_loadNumber 26 = .ok (.lneg, 1) := by decide +kernel
theorem dX8_loadNumber_27 : decode cX8_loadNumber 27 = .ok (.goto 4, 3) := by decide +kernel
theorem dX8_loadNumber_30 : decode cX8_loadNumber 30 = .ok (.lload_n 1, 1) := by decide +kernel
theorem dX8_loadNumber_31 : decode cX8_loadNumber 31 = .ok (.bipush 10, 2) := by decide +kernel
theorem dX8_loadNumber_33 : decode cX8_loadNumber 33 = .ok (.iconst 0, 1) := by decide +kernel
theorem dX8_loadNumber_34 : decode cX8_loadNumber 34 = .ok (.invokevirtual 155, 3) := by decide +kernel
theorem dX8_loadNumber_37 : decode cX8_loadNumber 37 = .ok (.aload_n 0, 1) := by decide +kernel
theorem dX8_loadNumber_38 : decode cX8_loadNumber 38 = .ok (.getfield 19, 3) := by decide +kernel
theorem dX8_loadNumber_41 : decode cX8_loadNumber 41 = .ok (.aload_n 0, 1) := by decide +kernel
theorem dX8_loadNumber_42 : decode cX8_loadNumber 42 = .ok (.getfield 42, 3) := by decide +kernel
theorem dX8_loadNumber_45 : decode cX8_loadNumber 45 = .ok (.iconst 1, 1) := by decide +kernel
theorem dX8_loadNumber_46 : decode cX8_loadNumber 46 = .ok (.invokevirtual 161, 3) := by decide +kernel
theorem dX8_loadNumber_49 : decode cX8_loadNumber 49 = .ok (.return_, 1) := by decide +kernel
theorem dX8_unescapePiece_0 : decode cX8_unescapePiece 0 = .ok (.iconst 0, 1) := by decide +kernel
theorem dX8_unescapePiece_1 : decode cX8_unescapePiece 1 = .ok (.istore_n 1, 1) := by decide +kernel
theorem dX8_unescapePiece_2 : decode cX8_unescapePiece 2 = .ok (.aload_n 0, 1) := by decide +kernel
theorem dX8_unescapePiece_3 : decode cX8_unescapePiece 3 = .ok (.getfield 45, 3) := by decide +kernel
theorem dX8_unescapePiece_6 : decode cX8_unescapePiece 6 = .ok (.aload_n 0, 1) := by decide +kernel
theorem dX8_unescapePiece_7 : decode cX8_unescapePiece 7 = .ok (.getfield 42, 3) := by decide +kernel
theorem dX8_unescapePiece_10 : decode cX8_unescapePiece 10 = .ok (.invokevirtual 148, 3) := by decide +kernel
theorem dX8_unescapePiece_13 : decode cX8_unescapePiece 13 = .ok (.aload_n 0, 1) := by decide +kernel
theorem dX8_unescapePiece_14 : decode cX8_unescapePiece 14 = .ok (.getfield 42, 3) := by decide +kernel
theorem dX8_unescapePiece_17 : decode cX8_unescapePiece 17 = .ok (.invokevirtual 60, 3) := by decide +kernel
theorem dX8_unescapePiece_20 : decode cX8_unescapePiece 20 = .ok (.iconst 0, 1) := by decide +kernel
theorem dX8_unescapePiece_21 : decode cX8_unescapePiece 21 = .ok (.istore_n 2, 1) := by decide +kernel
theorem dX8_unescapePiece_22 : decode cX8_unescapePiece 22 = .ok (.iload_n 2, 1) := by decide +kernel
theorem dX8_unescapePiece_23 : decode cX8_unescapePiece 23 = .ok (.bipush 80, 2) := by decide +kernel
theorem dX8_unescapePiece_25 : decode cX8_unescapePiece 25 = .ok (.if_icmp .ge 128, 3) := by decide +kernel
theorem dX8_unescapePiece_28 : decode cX8_unescapePiece 28 = .ok (.iload_n 1, 1) := by decide +kernel
theorem dX8_unescapePiece_29 : decode cX8_unescapePiece 29 = .ok (.aload_n 0, 1) := by decide +kernel
theorem dX8_unescapePiece_30 : decode cX8_unescapePiece 30 = .ok (.getfield 45, 3) := by decide +kernel
theorem dX8_unescapePiece_33 : decode cX8_unescapePiece 33 = .ok (.invokevirtual 52, 3) := by decide +kernel
theorem dX8_unescapePiece_36 : decode cX8_unescapePiece 36 = .ok (.if_icmp .ge 117, 3) := by decide +kernel
theorem dX8_unescapePiece_39 : decode cX8_unescapePiece 39 = .ok (.aload_n 0, 1) := by decide +kernel
theorem dX8_unescapePiece_40 : decode cX8_unescapePiece 40 = .ok (.getfield 45, 3) := by decide +kernel
theorem dX8_unescapePiece_43 : decode cX8_unescapePiece 43 = .ok (.iload_n 1, 1) := by decide +kernel
theorem dX8_unescapePiece_44 : decode cX8_unescapePiece 44 = .ok (.invokevirtual 68, 3) := by decide +kernel
theorem dX8_unescapePiece_47 : decode cX8_unescapePiece 47 = .ok (.bipush 92, 2) := by decide +kernel
theorem dX8_unescapePiece_49 : decode cX8_unescapePiece 49 = .ok (.if_icmp .ne 7, 3) := by decide +kernel
theorem dX8_unescapePiece_52 : decode cX8_unescapePiece 52 = .ok (.iconst 1, 1) := by decide +kernel
theorem dX8_unescapePiece_53 : decode cX8_unescapePiece 53 = .ok (.goto 4, 3) := by decide +kernel
theorem dX8_unescapePiece_56 : decode cX8_unescapePiece 56 = .ok (.iconst 0, 1) := by decide +kernel
theorem dX8_unescapePiece_57 : decode cX8_unescapePiece 57 = .ok (.istore_n 3, 1) := by decide +kernel
theorem dX8_unescapePiece_58 : decode cX8_unescapePiece 58 = .ok (.iload_n 3, 1) := by decide +kernel
theorem dX8_unescapePiece_59 : decode cX8_unescapePiece 59 = .ok (.ifCond .eq 24, 3) := by decide +kernel
theorem dX8_unescapePiece_62 : decode cX8_unescapePiece 62 = .ok (.aload_n 0, 1) := by decide +kernel
theorem dX8_unescapePiece_63 : decode cX8_unescapePiece 63 = .ok (.getfield 45, 3) := by decide +kernel
theorem dX8_unescapePiece_66 : decode cX8_unescapePiece 66 = .ok (.iload_n 1, 1) := by decide +kernel
theorem dX8_unescapePiece_67 : decode cX8_unescapePiece 67 = .ok (.iconst 1, 1) := by decide +kernel
theorem dX8_unescapePiece_68 : decode cX8_unescapePiece 68 = .ok (.iadd, 1) := by decide +kernel
theorem dX8_unescapePiece_69 : decode cX8_unescapePiece 69 = .ok (.invokevirtual 68, 3) := by decide +kernel
theorem dX8_unescapePiece_72 : decode cX8_unescapePiece 72 = .ok (.bipush 99, 2) := by decide +kernel
theorem dX8_unescapePiece_74 : decode cX8_unescapePiece 74 = .ok (.if_icmp .ne 9, 3) := by decide +kernel
theorem dX8_unescapePiece_77 : decode cX8_unescapePiece 77 = .ok (.aload_n 0, 1) := by decide +kernel
theorem dX8_unescapePiece_78 : decode cX8_unescapePiece 78 = .ok (.iconst 1, 1) := by decide +kernel
theorem dX8_unescapePiece_79 : decode cX8_unescapePiece 79 = .ok (.putfield 48, 3) := by decide +kernel
theorem dX8_unescapePiece_82 : decode cX8_unescapePiece 82 = .ok (.return_, 1) := by decide +kernel
theorem dX8_unescapePiece_83 : decode cX8_unescapePiece 83 = .ok (.iload_n 3, 1) := by decide +kernel
theorem dX8_unescapePiece_84 : decode cX8_unescapePiece 84 = .ok (.ifCond .eq 45, 3) := by decide +kernel
theorem dX8_unescapePiece_87 : decode cX8_unescapePiece 87 = .ok (.aload_n 0, 1) := by decide +kernel
theorem dX8_unescapePiece_88 : decode cX8_unescapePiece 88 = .ok (.getfield 26, 3) := by decide +kernel
theorem dX8_unescapePiece_91 : decode cX8_unescapePiece 91 = .ok (.aload_n 0, 1) := by decide +kernel
theorem dX8_unescapePiece_92 : decode cX8_unescapePiece 92 = .ok (.getfield 45, 3) := by decide +kernel
theorem dX8_unescapePiece_95 : decode cX8_unescapePiece 95 = .ok (.iload_n 1, 1) := by decide +kernel
theorem dX8_unescapePiece_96 : decode cX8_unescapePiece 96 = .ok (.iconst 1, 1) := by decide +kernel
theorem dX8_unescapePiece_97 : decode cX8_unescapePiece 97 = .ok (.iadd, 1) := by decide +kernel
theorem dX8_unescapePiece_98 : decode cX8_unescapePiece 98 = .ok (.invokevirtual 165, 3) := by decide +kernel
theorem dX8_unescapePiece_101 : decode cX8_unescapePiece 101 = .ok (.ifCond .eq 28, 3) := by decide +kernel
theorem dX8_unescapePiece_104 : decode cX8_unescapePiece 104 = .ok (.aload_n 0, 1) := by decide +kernel
theorem dX8_unescapePiece_105 : decode cX8_unescapePiece 105 = .ok (.getfield 42, 3) := by decide +kernel
theorem dX8_unescapePiece_108 : decode cX8_unescapePiece 108 = .ok (.aload_n 0, 1) := by decide +kernel
theorem dX8_unescapePiece_109 : decode cX8_unescapePiece 109 = .ok (.getfield 26, 3) := by decide +kernel
theorem dX8_unescapePiece_112 : decode cX8_unescapePiece 112 = .ok (.invokevirtual 72, 3) := by decide +kernel
theorem dX8_unescapePiece_115 : decode cX8_unescapePiece 115 = .ok (.invokevirtual 75, 3) := by decide +kernel
theorem dX8_unescapePiece_118 : decode cX8_unescapePiece 118 = .ok (.aload_n 0, 1) := by decide +kernel
theorem dX8_unescapePiece_119 : decode cX8_unescapePiece 119 = .ok (.getfield 26, 3) := by decide +kernel
theorem dX8_unescapePiece_122 : decode cX8_unescapePiece 122 = .ok (.invokevirtual 85, 3) := by decide +kernel
theorem dX8_unescapePiece_125 : decode cX8_unescapePiece 125 = .ok (.istore_n 1, 1) := by decide +kernel
theorem dX8_unescapePiece_126 : decode cX8_unescapePiece 126 = .ok (.goto 21, 3) := by decide +kernel
theorem dX8_unescapePiece_129 : decode cX8_unescapePiece 129 = .ok (.aload_n 0, 1) := by decide +kernel
theorem dX8_unescapePiece_130 : decode cX8_unescapePiece 130 = .ok (.getfield 42, 3) := by decide +kernel
theorem dX8_unescapePiece_133 : decode cX8_unescapePiece 133 = .ok (.aload_n 0, 1) := by decide +kernel
theorem dX8_unescapePiece_134 : decode cX8_unescapePiece 134 = .ok (.getfield 45, 3) := by decide +kernel
theorem dX8_unescapePiece_137 : decode cX8_unescapePiece 137 = .ok (.iload_n 1, 1) := by decide +kernel
theorem dX8_unescapePiece_138 : decode cX8_unescapePiece 138 = .ok (.invokevirtual 68, 3) := by decide +kernel
theorem dX8_unescapePiece_141 : decode cX8_unescapePiece 141 = .ok (.invokevirtual 75, 3) := by decide +kernel
theorem dX8_unescapePiece_144 : decode cX8_unescapePiece 144 = .ok (.iinc 1 1, 3) := by decide +kernel
theorem dX8_unescapePiece_147 : decode cX8_unescapePiece 147 = .ok (.iinc 2 1, 3) := by decide +kernel
