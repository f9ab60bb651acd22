theorem dX12_readTwo_30 : decode cX12_readTwo 30 = .ok (.bipush 57, 2) := by decide +kernel
theorem dX12_readTwo_32 : decode cX12_readTwo 32 = .ok (.if_icmp .gt 36, 3) := by decide +kernel
theorem dX12_readTwo_35 : decode cX12_readTwo 35 = .ok (.bipush 10, 2) := by decide +kernel
theorem dX12_readTwo_37 : decode cX12_readTwo 37 = .ok (.iload_n 1, 1) := by decide +kernel
theorem dX12_readTwo_38 : decode cX12_readTwo 38 = .ok (.imul, 1) := by decide +kernel
theorem dX12_readTwo_39 : decode cX12_readTwo 39 = .ok (.aload_n 0, 1) := by decide +kernel
theorem dX12_readTwo_40 : decode cX12_readTwo 40 = .ok (.aload_n 0, 1) := by decide +kernel
theorem dX12_readTwo_41 : decode cX12_readTwo 41 = .ok (.getfield 106, 3) := by decide +kernel
theorem dX12_readTwo_44 : decode cX12_readTwo 44 = .ok (.invokevirtual 109, 3) := by decide +kernel
theorem dX12_readTwo_47 : decode cX12_readTwo 47 = .ok (.iadd, 1) := by decide +kernel
theorem dX12_readTwo_48 : decode cX12_readTwo 48 = .ok (.bipush 48, 2) := by decide +kernel
theorem dX12_readTwo_50 : decode cX12_readTwo 50 = .ok (.isub, 1) := by decide +kernel
theorem dX12_readTwo_51 : decode cX12_readTwo 51 = .ok (.istore_n 1, 1) := by decide +kernel
theorem dX12_readTwo_52 : decode cX12_readTwo 52 = .ok (.aload_n 0, 1) := by decide +kernel
theorem dX12_readTwo_53 : decode cX12_readTwo 53 = .ok (.dup, 1) := by decide +kernel
theorem dX12_readTwo_54 : decode cX12_readTwo 54 = .ok (.getfield 106, 3) := by decide +kernel
theorem dX12_readTwo_57 : decode cX12_readTwo 57 = .ok (.iconst 1, 1) := by decide +kernel
theorem dX12_readTwo_58 : decode cX12_readTwo 58 = .ok (.iadd, 1) := by decide +kernel
theorem dX12_readTwo_59 : decode cX12_readTwo 59 = .ok (.putfield 106, 3) := by decide +kernel
theorem dX12_readTwo_62 : decode cX12_readTwo 62 = .ok (.iinc 2 1, 3) := by decide +kernel
theorem dX12_readTwo_65 : decode cX12_readTwo 65 = .ok (.goto (-61), 3) := by decide +kernel
theorem dX12_readTwo_68 : decode cX12_readTwo 68 = .ok (.iload_n 1, 1) := by decide +kernel
theorem dX12_readTwo_69 : decode cX12_readTwo 69 = .ok (.ireturn, 1) := by decide +kernel
theorem dX12_readEscape_0 : decode cX12_readEscape 0 = .ok (.aload_n 0, 1) := by decide +kernel
theorem dX12_readEscape_1 : decode cX12_readEscape 1 = .ok (.aload_n 0, 1) := by decide +kernel
theorem dX12_readEscape_2 : decode cX12_readEscape 2 = .ok (.getfield 106, 3) := by decide +kernel
theorem dX12_readEscape_5 : decode cX12_readEscape 5 = .ok (.invokevirtual 109, 3) := by decide +kernel
theorem dX12_readEscape_8 : decode cX12_readEscape 8 = .ok (.istore_n 1, 1) := by decide +kernel
theorem dX12_readEscape_9 : decode cX12_readEscape 9 = .ok (.iload_n 1, 1) := by decide +kernel
theorem dX12_readEscape_10 : decode cX12_readEscape 10 = .ok (.invokestatic 130, 3) := by decide +kernel
theorem dX12_readEscape_13 : decode cX12_readEscape 13 = .ok (.ifCond .eq 65, 3) := by decide +kernel
theorem dX12_readEscape_16 : decode cX12_readEscape 16 = .ok (.iconst 0, 1) := by decide +kernel
theorem dX12_readEscape_17 : decode cX12_readEscape 17 = .ok (.istore_n 2, 1) := by decide +kernel
theorem dX12_readEscape_18 : decode cX12_readEscape 18 = .ok (.iconst 0, 1) := by decide +kernel
theorem dX12_readEscape_19 : decode cX12_readEscape 19 = .ok (.istore_n 3, 1) := by decide +kernel
theorem dX12_readEscape_20 : decode cX12_readEscape 20 = .ok (.iload_n 3, 1) := by decide +kernel
theorem dX12_readEscape_21 : decode cX12_readEscape 21 = .ok (.iconst 3, 1) := by decide +kernel
theorem dX12_readEscape_22 : decode cX12_readEscape 22 = .ok (.if_icmp .ge 50, 3) := by decide +kernel
theorem dX12_readEscape_25 : decode cX12_readEscape 25 = .ok (.aload_n 0, 1) := by decide +kernel
theorem dX12_readEscape_26 : decode cX12_readEscape 26 = .ok (.aload_n 0, 1) := by decide +kernel
theorem dX12_readEscape_27 : decode cX12_readEscape 27 = .ok (.getfield 106, 3) := by decide +kernel
theorem dX12_readEscape_30 : decode cX12_readEscape 30 = .ok (.invokevirtual 109, 3) := by decide +kernel
theorem dX12_readEscape_33 : decode cX12_readEscape 33 = .ok (.invokestatic 130, 3) := by decide +kernel
theorem dX12_readEscape_36 : decode cX12_readEscape 36 = .ok (.ifCond .eq 36, 3) := by decide +kernel
theorem dX12_readEscape_39 : decode cX12_readEscape 39 = .ok (.bipush 8, 2) := by decide +kernel
theorem dX12_readEscape_41 : decode cX12_readEscape 41 = .ok (.iload_n 2, 1) := by decide +kernel
theorem dX12_readEscape_42 : decode cX12_readEscape 42 = .ok (.imul, 1) := by decide +kernel
theorem dX12_readEscape_43 : decode cX12_readEscape 43 = .ok (.aload_n 0, 1) := by decide +kernel
theorem dX12_readEscape_44 : decode cX12_readEscape 44 = .ok (.aload_n 0, 1) := by decide +kernel
theorem dX12_readEscape_45 : decode cX12_readEscape 45 = .ok (.getfield 106, 3) := by decide +kernel
theorem dX12_readEscape_48 : decode cX12_readEscape 48 = .ok (.invokevirtual 109, 3) := by decide +kernel
theorem dX12_readEscape_51 : decode cX12_readEscape 51 = .ok (.iadd, 1) := by decide +kernel
theorem dX12_readEscape_52 : decode cX12_readEscape 52 = .ok (.bipush 48, 2) := by decide +kernel
theorem dX12_readEscape_54 : decode cX12_readEscape 54 = .ok (.isub, 1) := by decide +kernel
theorem dX12_readEscape_55 : decode cX12_readEscape 55 = .ok (.istore_n 2, 1) := by decide +kernel
theorem dX12_readEscape_56 : decode cX12_readEscape 56 = .ok (.aload_n 0, 1) := by decide +kernel
theorem dX12_readEscape_57 : decode cX12_readEscape 57 = .ok (.dup, 1) := by decide +kernel
theorem dX12_readEscape_58 : decode cX12_readEscape 58 = .ok (.getfield 106, 3) := by decide +kernel
theorem dX12_readEscape_61 : decode cX12_readEscape 61 = .ok (.iconst 1, 1) := by decide +kernel
theorem dX12_readEscape_62 : decode cX12_readEscape 62 = .ok (.iadd, 1) := by decide +kernel
theorem dX12_readEscape_63 : decode cX12_readEscape 63 = .ok (.putfield 106, 3) := by decide +kernel
theorem dX12_readEscape_66 : decode cX12_readEscape 66 = .ok (.iinc 3 1, 3) := by decide +kernel
theorem dX12_readEscape_69 : decode cX12_readEscape 69 = .ok (.goto (-49), 3) := by decide +kernel
theorem dX12_readEscape_72 : decode cX12_readEscape 72 = .ok (.iload_n 2, 1) := by decide +kernel
theorem dX12_readEscape_73 : decode cX12_readEscape 73 = .ok (.sipush 255, 3) := by decide +kernel
theorem dX12_readEscape_76 : decode cX12_readEscape 76 = .ok (.iand, 1) := by decide +kernel
theorem dX12_readEscape_77 : decode cX12_readEscape 77 = .ok (.ireturn, 1) := by decide +kernel
theorem dX12_readEscape_78 : decode cX12_readEscape 78 = .ok (.aload_n 0, 1) := by decide +kernel
theorem dX12_readEscape_79 : decode cX12_readEscape 79 = .ok (.dup, 1) := by decide +kernel
theorem dX12_readEscape_80 : decode cX12_readEscape 80 = .ok (.getfield 106, 3) := by decide +kernel
theorem dX12_readEscape_83 : decode cX12_readEscape 83 = .ok (.iconst 1, 1) := by decide +kernel
theorem dX12_readEscape_84 : decode cX12_readEscape 84 = .ok (.iadd, 1) := by decide +kernel
theorem dX12_readEscape_85 : decode cX12_readEscape 85 = .ok (.putfield 106, 3) := by decide +kernel
theorem dX12_readEscape_88 : decode cX12_readEscape 88 = .ok (.iload_n 1, 1) := by decide +kernel
theorem dX12_readEscape_89 : decode cX12_readEscape 89 = .ok (.invokestatic 134, 3) := by decide +kernel
theorem dX12_readEscape_92 : decode cX12_readEscape 92 = .ok (.ireturn, 1) := by decide +kernel
theorem dX12_badAt_0 : decode cX12_badAt 0 = .ok (.aload_n 0, 1) := by decide +kernel
theorem dX12_badAt_1 : decode cX12_badAt 1 = .ok (.iconst 0, 1) := by decide +kernel
theorem dX12_badAt_2 : decode cX12_badAt 2 = .ok (.putfield 106, 3) := by decide +kernel
theorem dX12_badAt_5 : decode cX12_badAt 5 = .ok (.aload_n 0, 1) := by decide +kernel
theorem dX12_badAt_6 : decode cX12_badAt 6 = .ok (.getfield 106, 3) := by decide +kernel
theorem dX12_badAt_9 : decode cX12_badAt 9 = .ok (.aload_n 0, 1) := by decide +kernel
theorem dX12_badAt_10 : decode cX12_badAt 10 = .ok (.getfield 53, 3) := by decide +kernel
theorem dX12_badAt_13 : decode cX12_badAt 13 = .ok (.if_icmp .ge 115, 3) := by decide +kernel
theorem dX12_badAt_16 : decode cX12_badAt 16 = .ok (.aload_n 0, 1) := by decide +kernel
theorem dX12_badAt_17 : decode cX12_badAt 17 = .ok (.getfield 106, 3) := by decide +kernel
theorem dX12_badAt_20 : decode cX12_badAt 20 = .ok (.istore_n 1, 1) := by decide +kernel
theorem dX12_badAt_21 : decode cX12_badAt 21 = .ok (.aload_n 0, 1) := by decide +kernel
theorem dX12_badAt_22 : decode cX12_badAt 22 = .ok (.getfield 7, 3) := by decide +kernel
theorem dX12_badAt_25 : decode cX12_badAt 25 = .ok (.aload_n 0, 1) := by decide +kernel
theorem dX12_badAt_26 : decode cX12_badAt 26 = .ok (.getfield 106, 3) := by decide +kernel
theorem dX12_badAt_29 : decode cX12_badAt 29 = .ok (.caload, 1) := by decide +kernel
theorem dX12_badAt_30 : decode cX12_badAt 30 = .ok (.istore_n 2, 1) := by decide +kernel
theorem dX12_badAt_31 : decode cX12_badAt 31 = .ok (.aload_n 0, 1) := by decide +kernel
theorem dX12_badAt_32 : decode cX12_badAt 32 = .ok (.dup, 1) := by decide +kernel
theorem dX12_badAt_33 : decode cX12_badAt 33 = .ok (.getfield 106, 3) := by decide +kernel
theorem dX12_badAt_36 : decode cX12_badAt 36 = .ok (.iconst 1, 1) := by decide +kernel
theorem dX12_badAt_37 : decode cX12_badAt 37 = .ok (.iadd, 1) := by decide +kernel
theorem dX12_badAt_38 : decode cX12_badAt 38 = .ok (.putfield 106, 3) := by decide +kernel
theorem dX12_badAt_41 : decode cX12_badAt 41 = .ok (.iconst 1, 1) := by decide +kernel
theorem dX12_badAt_42 : decode cX12_badAt 42 = .ok (.istore_n 3, 1) := by decide +kernel
theorem dX12_badAt_43 : decode cX12_badAt 43 = .ok (.iload_n 2, 1) := by decide +kernel
theorem dX12_badAt_44 : decode cX12_badAt 44 = .ok (.bipush 92, 2) := by decide +kernel
theorem dX12_badAt_46 : decode cX12_badAt 46 = .ok (.if_icmp .ne 30, 3) := by decide +kernel
theorem dX12_badAt_49 : decode cX12_badAt 49 = .ok (.aload_n 0, 1) := by decide +kernel
theorem dX12_badAt_50 : decode cX12_badAt 50 = .ok (.getfield 106, 3) := by decide +kernel
theorem dX12_badAt_53 : decode cX12_badAt 53 = .ok (.aload_n 0, 1) := by decide +kernel
theorem dX12_badAt_54 : decode cX12_badAt 54 = .ok (.getfield 53, 3) := by decide +kernel
theorem dX12_badAt_57 : decode cX12_badAt 57 = .ok (.if_icmp .ge 14, 3) := by decide +kernel
theorem dX12_badAt_60 : decode cX12_badAt 60 = .ok (.aload_n 0, 1) := by decide +kernel
theorem dX12_badAt_61 : decode cX12_badAt 61 = .ok (.invokevirtual 138, 3) := by decide +kernel
theorem dX12_badAt_64 : decode cX12_badAt 64 = .ok (.ifCond .lt 7, 3) := by decide +kernel
theorem dX12_badAt_67 : decode cX12_badAt 67 = .ok (.iconst 1, 1) := by decide +kernel
theorem dX12_badAt_68 : decode cX12_badAt 68 = .ok (.goto 4, 3) := by decide +kernel
theorem dX12_badAt_71 : decode cX12_badAt 71 = .ok (.iconst 0, 1) := by decide +kernel
theorem dX12_badAt_72 : decode cX12_badAt 72 = .ok (.istore_n 3, 1) := by decide +kernel
theorem dX12_badAt_73 : decode cX12_badAt 73 = .ok (.goto 46, 3) := by decide +kernel
theorem dX12_badAt_76 : decode cX12_badAt 76 = .ok (.iload_n 2, 1) := by decide +kernel
theorem dX12_badAt_77 : decode cX12_badAt 77 = .ok (.bipush 37, 2) := by decide +kernel
theorem dX12_badAt_79 : decode cX12_badAt 79 = .ok (.if_icmp .ne 29, 3) := by decide +kernel
theorem dX12_badAt_82 : decode cX12_badAt 82 = .ok (.aload_n 0, 1) := by decide +kernel
theorem dX12_badAt_83 : decode cX12_badAt 83 = .ok (.aload_n 0, 1) := by decide +kernel
theorem dX12_badAt_84 : decode cX12_badAt 84 = .ok (.getfield 106, 3) := by decide +kernel
theorem dX12_badAt_87 : decode cX12_badAt 87 = .ok (.invokevirtual 109, 3) := by decide +kernel
theorem dX12_badAt_90 : decode cX12_badAt 90 = .ok (.bipush 37, 2) := by decide +kernel
theorem dX12_badAt_92 : decode cX12_badAt 92 = .ok (.if_icmp .ne 16, 3) := by decide +kernel
theorem dX12_badAt_95 : decode cX12_badAt 95 = .ok (.aload_n 0, 1) := by decide +kernel
theorem dX12_badAt_96 : decode cX12_badAt 96 = .ok (.dup, 1) := by decide +kernel
theorem dX12_badAt_97 : decode cX12_badAt 97 = .ok (.getfield 106, 3) := by decide +kernel
theorem dX12_badAt_100 : decode cX12_badAt 100 = .ok (.iconst 1, 1) := by decide +kernel
theorem dX12_badAt_101 : decode cX12_badAt 101 = .ok (.iadd, 1) := by decide +kernel
theorem dX12_badAt_102 : decode cX12_badAt 102 = .ok (.putfield 106, 3) := by decide +kernel
theorem dX12_badAt_105 : decode cX12_badAt 105 = .ok (.goto 14, 3) := by decide +kernel
theorem dX12_badAt_108 : decode cX12_badAt 108 = .ok (.iload_n 2, 1) := by decide +kernel
theorem dX12_badAt_109 : decode cX12_badAt 109 = .ok (.bipush 37, 2) := by decide +kernel
theorem dX12_badAt_111 : decode cX12_badAt 111 = .ok (.if_icmp .ne 8, 3) := by decide +kernel
theorem dX12_badAt_114 : decode cX12_badAt 114 = .ok (.aload_n 0, 1) := by decide +kernel
theorem dX12_badAt_115 : decode cX12_badAt 115 = .ok (.invokevirtual 141, 3) := by decide +kernel
theorem dX12_badAt_118 : decode cX12_badAt 118 = .ok (.istore_n 3, 1) := by decide +kernel
theorem dX12_badAt_119 : decode cX12_badAt 119 = .ok (.iload_n 3, 1) := by decide +kernel
theorem dX12_badAt_120 : decode cX12_badAt 120 = .ok (.ifCond .ne 5, 3) := by decide +kernel
theorem dX12_badAt_123 : decode cX12_badAt 123 = .ok (.iload_n 1, 1) := by decide +kernel
theorem dX12_badAt_124 : decode cX12_badAt 124 = .ok (.ireturn, 1) := by decide +kernel
theorem dX12_badAt_125 : decode cX12_badAt 125 = .ok (.goto (-120), 3) := by decide +kernel
theorem dX12_badAt_128 : decode cX12_badAt 128 = .ok (.iconst (-1), 1) := by decide +kernel
theorem dX12_badAt_129 : decode cX12_badAt 129 = .ok (.ireturn, 1) := by decide +kernel
theorem dX12_baseDigit_0 : decode cX12_baseDigit 0 = .ok (.iload_n 0, 1) := by decide +kernel
theorem dX12_baseDigit_1 : decode cX12_baseDigit 1 = .ok (.bipush 48, 2) := by decide +kernel
theorem dX12_baseDigit_3 : decode cX12_baseDigit 3 = .ok (.if_icmp .lt 16, 3) := by decide +kernel
theorem dX12_baseDigit_6 : decode cX12_baseDigit 6 = .ok (.iload_n 0, 1) := by decide +kernel
theorem dX12_baseDigit_7 : decode cX12_baseDigit 7 = .ok (.bipush 57, 2) := by decide +kernel
theorem dX12_baseDigit_9 : decode cX12_baseDigit 9 = .ok (.if_icmp .gt 10, 3) := by decide +kernel
theorem dX12_baseDigit_12 : decode cX12_baseDigit 12 = .ok (.iload_n 0, 1) := by decide +kernel
theorem dX12_baseDigit_13 : decode cX12_baseDigit 13 = .ok (.bipush 48, 2) := by decide +kernel
theorem dX12_baseDigit_15 : decode cX12_baseDigit 15 = .ok (.isub, 1) := by decide +kernel
theorem dX12_baseDigit_16 : decode cX12_baseDigit 16 = .ok (.goto 49, 3) := by decide +kernel
theorem dX12_baseDigit_19 : decode cX12_baseDigit 19 = .ok (.iload_n 0, 1) := by decide +kernel
theorem dX12_baseDigit_20 : decode cX12_baseDigit 20 = .ok (.bipush 97, 2) := by decide +kernel
theorem dX12_baseDigit_22 : decode cX12_baseDigit 22 = .ok (.if_icmp .lt 19, 3) := by decide +kernel
theorem dX12_baseDigit_25 : decode cX12_baseDigit 25 = .ok (.iload_n 0, 1) := by decide +kernel
theorem dX12_baseDigit_26 : decode cX12_baseDigit 26 = .ok (.bipush 102, 2) := by decide +kernel
theorem dX12_baseDigit_28 : decode cX12_baseDigit 28 = .ok (.if_icmp .gt 13, 3) := by decide +kernel
theorem dX12_baseDigit_31 : decode cX12_baseDigit 31 = .ok (.iload_n 0, 1) := by decide +kernel
theorem dX12_baseDigit_32 : decode cX12_baseDigit 32 = .ok (.bipush 97, 2) := by decide +kernel
theorem dX12_baseDigit_34 : decode cX12_baseDigit 34 = .ok (.isub, 1) := by decide +kernel
theorem dX12_baseDigit_35 : decode cX12_baseDigit 35 = .ok (.bipush 10, 2) := by decide +kernel
theorem dX12_baseDigit_37 : decode cX12_baseDigit 37 = .ok (.iadd, 1) := by decide +kernel
theorem dX12_baseDigit_38 : decode cX12_baseDigit 38 = .ok (.goto 27, 3) := by decide +kernel
theorem dX12_baseDigit_41 : decode cX12_baseDigit 41 = .ok (.iload_n 0, 1) := by decide +kernel
theorem dX12_baseDigit_42 : decode cX12_baseDigit 42 = .ok (.bipush 65, 2) := by decide +kernel
theorem dX12_baseDigit_44 : decode cX12_baseDigit 44 = .ok (.if_icmp .lt 19, 3) := by decide +kernel
theorem dX12_baseDigit_47 : decode cX12_baseDigit 47 = .ok (.iload_n 0, 1) := by decide +kernel
theorem dX12_baseDigit_48 : decode cX12_baseDigit 48 = .ok (.bipush 70, 2) := by decide +kernel
theorem dX12_baseDigit_50 : decode cX12_baseDigit 50 = .ok (.if_icmp .gt 13, 3) := by decide +kernel
theorem dX12_baseDigit_53 : decode cX12_baseDigit 53 = .ok (.iload_n 0, 1) := by decide +kernel
theorem dX12_baseDigit_54 : decode cX12_baseDigit 54 = .ok (.bipush 65, 2) := by decide +kernel
theorem dX12_baseDigit_56 : decode cX12_baseDigit 56 = .ok (.isub, 1) := by decide +kernel
theorem dX12_baseDigit_57 : decode cX12_baseDigit 57 = .ok (.bipush 10, 2) := by decide +kernel
theorem dX12_baseDigit_59 : decode cX12_baseDigit 59 = .ok (.iadd, 1) := by decide +kernel
theorem dX12_baseDigit_60 : decode cX12_baseDigit 60 = .ok (.goto 5, 3) := by decide +kernel
theorem dX12_baseDigit_63 : decode cX12_baseDigit 63 = .ok (.bipush 99, 2) := by decide +kernel
theorem dX12_baseDigit_65 : decode cX12_baseDigit 65 = .ok (.istore_n 2, 1) := by decide +kernel
theorem dX12_baseDigit_66 : decode cX12_baseDigit 66 = .ok (.iload_n 2, 1) := by decide +kernel
theorem dX12_baseDigit_67 : decode cX12_baseDigit 67 = .ok (.iload_n 1, 1) := by decide +kernel
theorem dX12_baseDigit_68 : decode cX12_baseDigit 68 = .ok (.if_icmp .ge 7, 3) := by decide +kernel
theorem dX12_baseDigit_71 : decode cX12_baseDigit 71 = .ok (.iload_n 2, 1) := by decide +kernel
theorem dX12_baseDigit_72 : decode cX12_baseDigit 72 = .ok (.goto 4, 3) := by decide +kernel
theorem dX12_baseDigit_75 : decode cX12_baseDigit 75 = .ok (.iconst (-1), 1) := by decide +kernel
theorem dX12_baseDigit_76 : decode cX12_baseDigit 76 = .ok (.ireturn, 1) := by decide +kernel
theorem dX12_textAt_0 : decode cX12_textAt 0 = .ok (.iload_n 2, 1) := by decide +kernel
theorem dX12_textAt_1 : decode cX12_textAt 1 = .ok (.aload_n 0, 1) := by decide +kernel
theorem dX12_textAt_2 : decode cX12_textAt 2 = .ok (.getfield 21, 3) := by decide +kernel
theorem dX12_textAt_5 : decode cX12_textAt 5 = .ok (.iload_n 1, 1) := by decide +kernel
theorem dX12_textAt_6 : decode cX12_textAt 6 = .ok (.iaload, 1) := by decide +kernel
theorem dX12_textAt_7 : decode cX12_textAt 7 = .ok (.if_icmp .ge 17, 3) := by decide +kernel
theorem dX12_textAt_10 : decode cX12_textAt 10 = .ok (.aload_n 0, 1) := by decide +kernel
theorem dX12_textAt_11 : decode cX12_textAt 11 = .ok (.getfield 25, 3) := by decide +kernel
theorem dX12_textAt_14 : decode cX12_textAt 14 = .ok (.bipush 80, 2) := by decide +kernel
theorem dX12_textAt_16 : decode cX12_textAt 16 = .ok (.iload_n 1, 1) := by decide +kernel
theorem dX12_textAt_17 : decode cX12_textAt 17 = .ok (.imul, 1) := by decide +kernel
theorem dX12_textAt_18 : decode cX12_textAt 18 = .ok (.iload_n 2, 1) := by decide +kernel
theorem dX12_textAt_19 : decode cX12_textAt 19 = .ok (.iadd, 1) := by decide +kernel
theorem dX12_textAt_20 : decode cX12_textAt 20 = .ok (.caload, 1) := by decide +kernel
theorem dX12_textAt_21 : decode cX12_textAt 21 = .ok (.goto 4, 3) := by decide +kernel
theorem dX12_textAt_24 : decode cX12_textAt 24 = .ok (.iconst 0, 1) := by decide +kernel
theorem dX12_textAt_25 : decode cX12_textAt 25 = .ok (.ireturn, 1) := by decide +kernel
theorem dX12_textNumber_0 : decode cX12_textNumber 0 = .ok (.aload_n 0, 1) := by decide +kernel
theorem dX12_textNumber_1 : decode cX12_textNumber 1 = .ok (.getfield 21, 3) := by decide +kernel
theorem dX12_textNumber_4 : decode cX12_textNumber 4 = .ok (.iload_n 1, 1) := by decide +kernel
theorem dX12_textNumber_5 : decode cX12_textNumber 5 = .ok (.iaload, 1) := by decide +kernel
theorem dX12_textNumber_6 : decode cX12_textNumber 6 = .ok (.istore_n 2, 1) := by decide +kernel
theorem dX12_textNumber_7 : decode cX12_textNumber 7 = .ok (.aload_n 0, 1) := by decide +kernel
theorem dX12_textNumber_8 : decode cX12_textNumber 8 = .ok (.iload_n 1, 1) := by decide +kernel
theorem dX12_textNumber_9 : decode cX12_textNumber 9 = .ok (.iconst 0, 1) := by decide +kernel
theorem dX12_textNumber_10 : decode cX12_textNumber 10 = .ok (.invokevirtual 145, 3) := by decide +kernel
theorem dX12_textNumber_13 : decode cX12_textNumber 13 = .ok (.istore_n 3, 1) := by decide +kernel
theorem dX12_textNumber_14 : decode cX12_textNumber 14 = .ok (.iload_n 3, 1) := by decide +kernel
theorem dX12_textNumber_15 : decode cX12_textNumber 15 = .ok (.bipush 39, 2) := by decide +kernel
theorem dX12_textNumber_17 : decode cX12_textNumber 17 = .ok (.if_icmp .eq 9, 3) := by decide +kernel
theorem dX12_textNumber_20 : decode cX12_textNumber 20 = .ok (.iload_n 3, 1) := by decide +kernel
theorem dX12_textNumber_21 : decode cX12_textNumber 21 = .ok (.bipush 34, 2) := by decide +kernel
theorem dX12_textNumber_23 : decode cX12_textNumber 23 = .ok (.if_icmp .ne 42, 3) := by decide +kernel
theorem dX12_textNumber_26 : decode cX12_textNumber 26 = .ok (.aload_n 0, 1) := by decide +kernel
theorem dX12_textNumber_27 : decode cX12_textNumber 27 = .ok (.iload_n 2, 1) := by decide +kernel
theorem dX12_textNumber_28 : decode cX12_textNumber 28 = .ok (.iconst 2, 1) := by decide +kernel
theorem dX12_textNumber_29 : decode cX12_textNumber 29 = .ok (.if_icmp .ne 10, 3) := by decide +kernel
theorem dX12_textNumber_32 : decode cX12_textNumber 32 = .ok (.aload_n 0, 1) := by decide +kernel
theorem dX12_textNumber_33 : decode cX12_textNumber 33 = .ok (.getfield 149, 3) := by decide +kernel
theorem dX12_textNumber_36 : decode cX12_textNumber 36 = .ok (.goto 9, 3) := by decide +kernel
theorem dX12_textNumber_39 : decode cX12_textNumber 39 = .ok (.aload_n 0, 1) := by decide +kernel
theorem dX12_textNumber_40 : decode cX12_textNumber 40 = .ok (.getfield 149, 3) := by decide +kernel
theorem dX12_textNumber_43 : decode cX12_textNumber 43 = .ok (.iconst 1, 1) := by decide +kernel
theorem dX12_textNumber_44 : decode cX12_textNumber 44 = .ok (.iadd, 1) := by decide +kernel
theorem dX12_textNumber_45 : decode cX12_textNumber 45 = .ok (.putfield 149, 3) := by decide +kernel
theorem dX12_textNumber_48 : decode cX12_textNumber 48 = .ok (.iload_n 2, 1) := by decide +kernel
theorem dX12_textNumber_49 : decode cX12_textNumber 49 = .ok (.iconst 1, 1) := by decide +kernel
theorem dX12_textNumber_50 : decode cX12_textNumber 50 = .ok (.if_icmp .le 13, 3) := by decide +kernel
theorem dX12_textNumber_53 : decode cX12_textNumber 53 = .ok (.aload_n 0, 1) := by decide +kernel
theorem dX12_textNumber_54 : decode cX12_textNumber 54 = .ok (.iload_n 1, 1) := by decide +kernel
theorem dX12_textNumber_55 : decode cX12_textNumber 55 = .ok (.iconst 1, 1) := by decide +kernel
theorem dX12_textNumber_56 : decode cX12_textNumber 56 = .ok (.invokevirtual 145, 3) := by decide +kernel
theorem dX12_textNumber_59 : decode cX12_textNumber 59 = .ok (.i2l, 1) := by decide +kernel
theorem dX12_textNumber_60 : decode cX12_textNumber 60 = .ok (.goto 4, 3) := by decide +kernel
theorem dX12_textNumber_63 : decode cX12_textNumber 63 = .ok (.lconst 0, 1) := by decide +kernel
theorem dX12_textNumber_64 : decode cX12_textNumber 64 = .ok (.lreturn, 1) := by decide +kernel
theorem dX12_textNumber_65 : decode cX12_textNumber 65 = .ok (.iload_n 3, 1) := by decide +kernel
theorem dX12_textNumber_66 : decode cX12_textNumber 66 = .ok (.bipush 43, 2) := by decide +kernel
theorem dX12_textNumber_68 : decode cX12_textNumber 68 = .ok (.if_icmp .eq 9, 3) := by decide +kernel
theorem dX12_textNumber_71 : decode cX12_textNumber 71 = .ok (.iload_n 3, 1) := by decide +kernel
theorem dX12_textNumber_72 : decode cX12_textNumber 72 = .ok (.bipush 45, 2) := by decide +kernel
theorem dX12_textNumber_74 : decode cX12_textNumber 74 = .ok (.if_icmp .ne 7, 3) := by decide +kernel
theorem dX12_textNumber_77 : decode cX12_textNumber 77 = .ok (.iconst 1, 1) := by decide +kernel
theorem dX12_textNumber_78 : decode cX12_textNumber 78 = .ok (.goto 4, 3) := by decide +kernel
theorem dX12_textNumber_81 : decode cX12_textNumber 81 = .ok (.iconst 0, 1) := by decide +kernel
theorem dX12_textNumber_82 : decode cX12_textNumber 82 = .ok (.istore 4, 2) := by decide +kernel
theorem dX12_textNumber_84 : decode cX12_textNumber 84 = .ok (.bipush 10, 2) := by decide +kernel
theorem dX12_textNumber_86 : decode cX12_textNumber 86 = .ok (.istore 5, 2) := by decide +kernel
theorem dX12_textNumber_88 : decode cX12_textNumber 88 = .ok (.iconst 0, 1) := by decide +kernel
theorem dX12_textNumber_89 : decode cX12_textNumber 89 = .ok (.istore 6, 2) := by decide +kernel
theorem dX12_textNumber_91 : decode cX12_textNumber 91 = .ok (.aload_n 0, 1) := by decide +kernel
theorem dX12_textNumber_92 : decode cX12_textNumber 92 = .ok (.iload_n 1, 1) := by decide +kernel
theorem dX12_textNumber_93 : decode cX12_textNumber 93 = .ok (.iload 4, 2) := by decide +kernel
theorem dX12_textNumber_95 : decode cX12_textNumber 95 = .ok (.invokevirtual 145, 3) := by decide +kernel
theorem dX12_textNumber_98 : decode cX12_textNumber 98 = .ok (.bipush 48, 2) := by decide +kernel
theorem dX12_textNumber_100 : decode cX12_textNumber 100 = .ok (.if_icmp .ne 93, 3) := by decide +kernel
theorem dX12_textNumber_103 : decode cX12_textNumber 103 = .ok (.aload_n 0, 1) := by decide +kernel
theorem dX12_textNumber_104 : decode cX12_textNumber 104 = .ok (.iload_n 1, 1) := by decide +kernel
theorem dX12_textNumber_105 : decode cX12_textNumber 105 = .ok (.iload 4, 2) := by decide +kernel
theorem dX12_textNumber_107 : decode cX12_textNumber 107 = .ok (.iconst 1, 1) := by decide +kernel
theorem dX12_textNumber_108 : decode cX12_textNumber 108 = .ok (.iadd, 1) := by decide +kernel
theorem dX12_textNumber_109 : decode cX12_textNumber 109 = .ok (.invokevirtual 145, 3) := by decide +kernel
theorem dX12_textNumber_112 : decode cX12_textNumber 112 = .ok (.bipush 120, 2) := by decide +kernel
theorem dX12_textNumber_114 : decode cX12_textNumber 114 = .ok (.if_icmp .eq 17, 3) := by decide +kernel
theorem dX12_textNumber_117 : decode cX12_textNumber 117 = .ok (.aload_n 0, 1) := by decide +kernel
theorem dX12_textNumber_118 : decode cX12_textNumber 118 = .ok (.iload_n 1, 1) := by decide +kernel
theorem dX12_textNumber_119 : decode cX12_textNumber 119 = .ok (.iload 4, 2) := by decide +kernel
theorem dX12_textNumber_121 : decode cX12_textNumber 121 = .ok (.iconst 1, 1) := by decide +kernel
theorem dX12_textNumber_122 : decode cX12_textNumber 122 = .ok (.iadd, 1) := by decide +kernel
theorem dX12_textNumber_123 : decode cX12_textNumber 123 = .ok (.invokevirtual 145, 3) := by decide +kernel
theorem dX12_textNumber_126 : decode cX12_textNumber 126 = .ok (.bipush 88, 2) := by decide +kernel
theorem dX12_textNumber_128 : decode cX12_textNumber 128 = .ok (.if_icmp .ne 32, 3) := by decide +kernel
theorem dX12_textNumber_131 : decode cX12_textNumber 131 = .ok (.iload 4, 2) := by decide +kernel
theorem dX12_textNumber_133 : decode cX12_textNumber 133 = .ok (.iconst 2, 1) := by decide +kernel
theorem dX12_textNumber_134 : decode cX12_textNumber 134 = .ok (.iadd, 1) := by decide +kernel
theorem dX12_textNumber_135 : decode cX12_textNumber 135 = .ok (.iload_n 2, 1) := by decide +kernel
theorem dX12_textNumber_136 : decode cX12_textNumber 136 = .ok (.if_icmp .ge 24, 3) := by decide +kernel
theorem dX12_textNumber_139 : decode cX12_textNumber 139 = .ok (.aload_n 0, 1) := by decide +kernel
theorem dX12_textNumber_140 : decode cX12_textNumber 140 = .ok (.iload_n 1, 1) := by decide +kernel
theorem dX12_textNumber_141 : decode cX12_textNumber 141 = .ok (.iload 4, 2) := by decide +kernel
theorem dX12_textNumber_143 : decode cX12_textNumber 143 = .ok (.iconst 2, 1) := by decide +kernel
theorem dX12_textNumber_144 : decode cX12_textNumber 144 = .ok (.iadd, 1) := by decide +kernel
theorem dX12_textNumber_145 : decode cX12_textNumber 145 = .ok (.invokevirtual 145, 3) := by decide +kernel
theorem dX12_textNumber_148 : decode cX12_textNumber 148 = .ok (.bipush 16, 2) := by decide +kernel
theorem dX12_textNumber_150 : decode cX12_textNumber 150 = .ok (.invokestatic 152, 3) := by decide +kernel
theorem dX12_textNumber_153 : decode cX12_textNumber 153 = .ok (.ifCond .lt 7, 3) := by decide +kernel
theorem dX12_textNumber_156 : decode cX12_textNumber 156 = .ok (.iconst 1, 1) := by decide +kernel
theorem dX12_textNumber_157 : decode cX12_textNumber 157 = .ok (.goto 4, 3) := by decide +kernel
theorem dX12_textNumber_160 : decode cX12_textNumber 160 = .ok (.iconst 0, 1) := by decide +kernel
theorem dX12_textNumber_161 : decode cX12_textNumber 161 = .ok (.istore 7, 2) := by decide +kernel
theorem dX12_textNumber_163 : decode cX12_textNumber 163 = .ok (.iload 7, 2) := by decide +kernel
theorem dX12_textNumber_165 : decode cX12_textNumber 165 = .ok (.ifCond .eq 8, 3) := by decide +kernel
theorem dX12_textNumber_168 : decode cX12_textNumber 168 = .ok (.bipush 16, 2) := by decide +kernel
theorem dX12_textNumber_170 : decode cX12_textNumber 170 = .ok (.goto 5, 3) := by decide +kernel
theorem dX12_textNumber_173 : decode cX12_textNumber 173 = .ok (.bipush 8, 2) := by decide +kernel
theorem dX12_textNumber_175 : decode cX12_textNumber 175 = .ok (.istore 5, 2) := by decide +kernel
theorem dX12_textNumber_177 : decode cX12_textNumber 177 = .ok (.iload 7, 2) := by decide +kernel
theorem dX12_textNumber_179 : decode cX12_textNumber 179 = .ok (.ifCond .eq 10, 3) := by decide +kernel
theorem dX12_textNumber_182 : decode cX12_textNumber 182 = .ok (.iload 4, 2) := by decide +kernel
theorem dX12_textNumber_184 : decode cX12_textNumber 184 = .ok (.iconst 2, 1) := by decide +kernel
theorem dX12_textNumber_185 : decode cX12_textNumber 185 = .ok (.iadd, 1) := by decide +kernel
theorem dX12_textNumber_186 : decode cX12_textNumber 186 = .ok (.goto 5, 3) := by decide +kernel
theorem dX12_textNumber_189 : decode cX12_textNumber 189 = .ok (.iload 4, 2) := by decide +kernel
theorem dX12_textNumber_191 : decode cX12_textNumber 191 = .ok (.istore 4, 2) := by decide +kernel
theorem dX12_textNumber_193 : decode cX12_textNumber 193 = .ok (.lconst 0, 1) := by decide +kernel
theorem dX12_textNumber_194 : decode cX12_textNumber 194 = .ok (.lstore 7, 2) := by decide +kernel
theorem dX12_textNumber_196 : decode cX12_textNumber 196 = .ok (.iload 4, 2) := by decide +kernel
theorem dX12_textNumber_198 : decode cX12_textNumber 198 = .ok (.iload_n 2, 1) := by decide +kernel
theorem dX12_textNumber_199 : decode cX12_textNumber 199 = .ok (.if_icmp .ge 49, 3) := by decide +kernel
theorem dX12_textNumber_202 : decode cX12_textNumber 202 = .ok (.aload_n 0, 1) := by decide +kernel
theorem dX12_textNumber_203 : decode cX12_textNumber 203 = .ok (.iload_n 1, 1) := by decide +kernel
theorem dX12_textNumber_204 : decode cX12_textNumber 204 = .ok (.iload 4, 2) := by decide +kernel
theorem dX12_textNumber_206 : decode cX12_textNumber 206 = .ok (.invokevirtual 145, 3) := by decide +kernel
theorem dX12_textNumber_209 : decode cX12_textNumber 209 = .ok (.iload 5, 2) := by decide +kernel
theorem dX12_textNumber_211 : decode cX12_textNumber 211 = .ok (.invokestatic 152, 3) := by decide +kernel
theorem dX12_textNumber_214 : decode cX12_textNumber 214 = .ok (.ifCond .lt 34, 3) := by decide +kernel
theorem dX12_textNumber_217 : decode cX12_textNumber 217 = .ok (.lload 7, 2) := by decide +kernel
theorem dX12_textNumber_219 : decode cX12_textNumber 219 = .ok (.iload 5, 2) := by decide +kernel
theorem dX12_textNumber_221 : decode cX12_textNumber 221 = .ok (.i2l, 1) := by decide +kernel
theorem dX12_textNumber_222 : decode cX12_textNumber 222 = .ok (.lmul, 1) := by decide +kernel
theorem dX12_textNumber_223 : decode cX12_textNumber 223 = .ok (.aload_n 0, 1) := by decide +kernel
theorem dX12_textNumber_224 : decode cX12_textNumber 224 = .ok (.iload_n 1, 1) := by decide +kernel
theorem dX12_textNumber_225 : decode cX12_textNumber 225 = .ok (.iload 4, 2) := by decide +kernel
theorem dX12_textNumber_227 : decode cX12_textNumber 227 = .ok (.invokevirtual 145, 3) := by decide +kernel
theorem dX12_textNumber_230 : decode cX12_textNumber 230 = .ok (.iload 5, 2) := by decide +kernel
theorem dX12_textNumber_232 : decode cX12_textNumber 232 = .ok (.invokestatic 152, 3) := by decide +kernel
theorem dX12_textNumber_235 : decode cX12_textNumber 235 = .ok (.i2l, 1) := by decide +kernel
theorem dX12_textNumber_236 : decode cX12_textNumber 236 = .ok (.ladd, 1) := by decide +kernel
theorem dX12_textNumber_237 : decode cX12_textNumber 237 = .ok (.lstore 7, 2) := by decide +kernel
theorem dX12_textNumber_239 : decode cX12_textNumber 239 = .ok (.iconst 1, 1) := by decide +kernel
theorem dX12_textNumber_240 : decode cX12_textNumber 240 = .ok (.istore 6, 2) := by decide +kernel
theorem dX12_textNumber_242 : decode cX12_textNumber 242 = .ok (.iinc 4 1, 3) := by decide +kernel
theorem dX12_textNumber_245 : decode cX12_textNumber 245 = .ok (.goto (-49), 3) := by decide +kernel
theorem dX12_textNumber_248 : decode cX12_textNumber 248 = .ok (.aload_n 0, 1) := by decide +kernel
theorem dX12_textNumber_249 : decode cX12_textNumber 249 = .ok (.iload 6, 2) := by decide +kernel
theorem dX12_textNumber_251 : decode cX12_textNumber 251 = .ok (.ifCond .eq 9, 3) := by decide +kernel
theorem dX12_textNumber_254 : decode cX12_textNumber 254 = .ok (.iload 4, 2) := by decide +kernel
theorem dX12_textNumber_256 : decode cX12_textNumber 256 = .ok (.iload_n 2, 1) := by decide +kernel
theorem dX12_textNumber_257 : decode cX12_textNumber 257 = .ok (.if_icmp .ge 12, 3) := by decide +kernel
theorem dX12_textNumber_260 : decode cX12_textNumber 260 = .ok (.aload_n 0, 1) := by decide +kernel
theorem dX12_textNumber_261 : decode cX12_textNumber 261 = .ok (.getfield 149, 3) := by decide +kernel
theorem dX12_textNumber_264 : decode cX12_textNumber 264 = .ok (.iconst 1, 1) := by decide +kernel
theorem dX12_textNumber_265 : decode cX12_textNumber 265 = .ok (.iadd, 1) := by decide +kernel
theorem dX12_textNumber_266 : decode cX12_textNumber 266 = .ok (.goto 7, 3) := by decide +kernel
theorem dX12_textNumber_269 : decode cX12_textNumber 269 = .ok (.aload_n 0, 1) := by decide +kernel
theorem dX12_textNumber_270 : decode cX12_textNumber 270 = .ok (.getfield 149, 3) := by decide +kernel
theorem dX12_textNumber_273 : decode cX12_textNumber 273 = .ok (.putfield 149, 3) := by decide +kernel
theorem dX12_textNumber_276 : decode cX12_textNumber 276 = .ok (.iload_n 3, 1) := by decide +kernel
theorem dX12_textNumber_277 : decode cX12_textNumber 277 = .ok (.bipush 45, 2) := by decide +kernel
theorem dX12_textNumber_279 : decode cX12_textNumber 279 = .ok (.if_icmp .ne 9, 3) := by decide +kernel
theorem dX12_textNumber_282 : decode cX12_textNumber 282 = .ok (.lload 7, 2) := by decide +kernel
theorem dX12_textNumber_284 : decode cX12_textNumber 284 = .ok (.lneg, 1) := by decide +kernel
theorem dX12_textNumber_285 : decode cX12_textNumber 285 = .ok (.goto 5, 3) := by decide +kernel
theorem dX12_textNumber_288 : decode cX12_textNumber 288 = .ok (.lload 7, 2) := by decide +kernel
theorem dX12_textNumber_290 : decode cX12_textNumber 290 = .ok (.lreturn, 1) := by decide +kernel
theorem dX12_takeNumber_0 : decode cX12_takeNumber 0 = .ok (.aload_n 0, 1) := by decide +kernel
theorem dX12_takeNumber_1 : decode cX12_takeNumber 1 = .ok (.getfield 156, 3) := by decide +kernel
theorem dX12_takeNumber_4 : decode cX12_takeNumber 4 = .ok (.aload_n 0, 1) := by decide +kernel
theorem dX12_takeNumber_5 : decode cX12_takeNumber 5 = .ok (.getfield 64, 3) := by decide +kernel
theorem dX12_takeNumber_8 : decode cX12_takeNumber 8 = .ok (.if_icmp .ne 5, 3) := by decide +kernel
theorem dX12_takeNumber_11 : decode cX12_takeNumber 11 = .ok (.lconst 0, 1) := by decide +kernel
theorem dX12_takeNumber_12 : decode cX12_takeNumber 12 = .ok (.lreturn, 1) := by decide +kernel
theorem dX12_takeNumber_13 : decode cX12_takeNumber 13 = .ok (.aload_n 0, 1) := by decide +kernel
theorem dX12_takeNumber_14 : decode cX12_takeNumber 14 = .ok (.getfield 156, 3) := by decide +kernel
theorem dX12_takeNumber_17 : decode cX12_takeNumber 17 = .ok (.istore_n 1, 1) := by decide +kernel
theorem dX12_takeNumber_18 : decode cX12_takeNumber 18 = .ok (.aload_n 0, 1) := by decide +kernel
theorem dX12_takeNumber_19 : decode cX12_takeNumber 19 = .ok (.dup, 1) := by decide +kernel
theorem dX12_takeNumber_20 : decode cX12_takeNumber 20 = .ok (.getfield 156, 3) := by decide +kernel
theorem dX12_takeNumber_23 : decode cX12_takeNumber 23 = .ok (.iconst 1, 1) := by decide +kernel
theorem dX12_takeNumber_24 : decode cX12_takeNumber 24 = .ok (.iadd, 1) := by decide +kernel
theorem dX12_takeNumber_25 : decode cX12_takeNumber 25 = .ok (.putfield 156, 3) := by decide +kernel
theorem dX12_takeNumber_28 : decode cX12_takeNumber 28 = .ok (.aload_n 0, 1) := by decide +kernel
theorem dX12_takeNumber_29 : decode cX12_takeNumber 29 = .ok (.getfield 13, 3) := by decide +kernel
theorem dX12_takeNumber_32 : decode cX12_takeNumber 32 = .ok (.iload_n 1, 1) := by decide +kernel
theorem dX12_takeNumber_33 : decode cX12_takeNumber 33 = .ok (.baload, 1) := by decide +kernel
theorem dX12_takeNumber_34 : decode cX12_takeNumber 34 = .ok (.ifCond .eq 11, 3) := by decide +kernel
theorem dX12_takeNumber_37 : decode cX12_takeNumber 37 = .ok (.aload_n 0, 1) := by decide +kernel
theorem dX12_takeNumber_38 : decode cX12_takeNumber 38 = .ok (.iload_n 1, 1) := by decide +kernel
theorem dX12_takeNumber_39 : decode cX12_takeNumber 39 = .ok (.invokevirtual 159, 3) := by decide +kernel
theorem dX12_takeNumber_42 : decode cX12_takeNumber 42 = .ok (.goto 9, 3) := by decide +kernel
theorem dX12_takeNumber_45 : decode cX12_takeNumber 45 = .ok (.aload_n 0, 1) := by decide +kernel
theorem dX12_takeNumber_46 : decode cX12_takeNumber 46 = .ok (.getfield 17, 3) := by decide +kernel
theorem dX12_takeNumber_49 : decode cX12_takeNumber 49 = .ok (.iload_n 1, 1) := by decide +kernel
theorem dX12_takeNumber_50 : decode cX12_takeNumber 50 = .ok (.laload, 1) := by decide +kernel
theorem dX12_takeNumber_51 : decode cX12_takeNumber 51 = .ok (.lreturn, 1) := by decide +kernel
theorem dX12_takeText_0 : decode cX12_takeText 0 = .ok (.aload_n 0, 1) := by decide +kernel
theorem dX12_takeText_1 : decode cX12_takeText 1 = .ok (.iconst 0, 1) := by decide +kernel
theorem dX12_takeText_2 : decode cX12_takeText 2 = .ok (.putfield 163, 3) := by decide +kernel
theorem dX12_takeText_5 : decode cX12_takeText 5 = .ok (.aload_n 0, 1) := by decide +kernel
theorem dX12_takeText_6 : decode cX12_takeText 6 = .ok (.getfield 156, 3) := by decide +kernel
theorem dX12_takeText_9 : decode cX12_takeText 9 = .ok (.aload_n 0, 1) := by decide +kernel
