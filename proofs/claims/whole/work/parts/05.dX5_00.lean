theorem dX5_init_0 : decode cX5_init 0 = .ok (.aload_n 0, 1) := by decide +kernel
theorem dX5_init_1 : decode cX5_init 1 = .ok (.invokespecial 3, 3) := by decide +kernel
theorem dX5_init_4 : decode cX5_init 4 = .ok (.aload_n 0, 1) := by decide +kernel
theorem dX5_init_5 : decode cX5_init 5 = .ok (.lconst 0, 1) := by decide +kernel
theorem dX5_init_6 : decode cX5_init 6 = .ok (.putfield 9, 3) := by decide +kernel
theorem dX5_init_9 : decode cX5_init 9 = .ok (.aload_n 0, 1) := by decide +kernel
theorem dX5_init_10 : decode cX5_init 10 = .ok (.iconst 0, 1) := by decide +kernel
theorem dX5_init_11 : decode cX5_init 11 = .ok (.putfield 15, 3) := by decide +kernel
theorem dX5_init_14 : decode cX5_init 14 = .ok (.return_, 1) := by decide +kernel
theorem dX5_value_0 : decode cX5_value 0 = .ok (.aload_n 0, 1) := by decide +kernel
theorem dX5_value_1 : decode cX5_value 1 = .ok (.getfield 9, 3) := by decide +kernel
theorem dX5_value_4 : decode cX5_value 4 = .ok (.lreturn, 1) := by decide +kernel
theorem dX5_isOdd_0 : decode cX5_isOdd 0 = .ok (.aload_n 0, 1) := by decide +kernel
theorem dX5_isOdd_1 : decode cX5_isOdd 1 = .ok (.getfield 15, 3) := by decide +kernel
theorem dX5_isOdd_4 : decode cX5_isOdd 4 = .ok (.ireturn, 1) := by decide +kernel
theorem dX5_read_0 : decode cX5_read 0 = .ok (.aload_n 1, 1) := by decide +kernel
theorem dX5_read_1 : decode cX5_read 1 = .ok (.iconst 0, 1) := by decide +kernel
theorem dX5_read_2 : decode cX5_read 2 = .ok (.invokevirtual 19, 3) := by decide +kernel
theorem dX5_read_5 : decode cX5_read 5 = .ok (.istore_n 2, 1) := by decide +kernel
theorem dX5_read_6 : decode cX5_read 6 = .ok (.iload_n 2, 1) := by decide +kernel
theorem dX5_read_7 : decode cX5_read 7 = .ok (.bipush 39, 2) := by decide +kernel
theorem dX5_read_9 : decode cX5_read 9 = .ok (.if_icmp .eq 9, 3) := by decide +kernel
theorem dX5_read_12 : decode cX5_read 12 = .ok (.iload_n 2, 1) := by decide +kernel
theorem dX5_read_13 : decode cX5_read 13 = .ok (.bipush 34, 2) := by decide +kernel
theorem dX5_read_15 : decode cX5_read 15 = .ok (.if_icmp .ne 9, 3) := by decide +kernel
theorem dX5_read_18 : decode cX5_read 18 = .ok (.aload_n 0, 1) := by decide +kernel
theorem dX5_read_19 : decode cX5_read 19 = .ok (.aload_n 1, 1) := by decide +kernel
theorem dX5_read_20 : decode cX5_read 20 = .ok (.invokevirtual 25, 3) := by decide +kernel
theorem dX5_read_23 : decode cX5_read 23 = .ok (.return_, 1) := by decide +kernel
theorem dX5_read_24 : decode cX5_read 24 = .ok (.iload_n 2, 1) := by decide +kernel
theorem dX5_read_25 : decode cX5_read 25 = .ok (.bipush 43, 2) := by decide +kernel
theorem dX5_read_27 : decode cX5_read 27 = .ok (.if_icmp .eq 9, 3) := by decide +kernel
theorem dX5_read_30 : decode cX5_read 30 = .ok (.iload_n 2, 1) := by decide +kernel
theorem dX5_read_31 : decode cX5_read 31 = .ok (.bipush 45, 2) := by decide +kernel
theorem dX5_read_33 : decode cX5_read 33 = .ok (.if_icmp .ne 7, 3) := by decide +kernel
theorem dX5_read_36 : decode cX5_read 36 = .ok (.iconst 1, 1) := by decide +kernel
theorem dX5_read_37 : decode cX5_read 37 = .ok (.goto 4, 3) := by decide +kernel
theorem dX5_read_40 : decode cX5_read 40 = .ok (.iconst 0, 1) := by decide +kernel
theorem dX5_read_41 : decode cX5_read 41 = .ok (.istore_n 3, 1) := by decide +kernel
theorem dX5_read_42 : decode cX5_read 42 = .ok (.aload_n 1, 1) := by decide +kernel
theorem dX5_read_43 : decode cX5_read 43 = .ok (.iload_n 3, 1) := by decide +kernel
theorem dX5_read_44 : decode cX5_read 44 = .ok (.invokevirtual 19, 3) := by decide +kernel
theorem dX5_read_47 : decode cX5_read 47 = .ok (.bipush 48, 2) := by decide +kernel
theorem dX5_read_49 : decode cX5_read 49 = .ok (.if_icmp .eq 14, 3) := by decide +kernel
theorem dX5_read_52 : decode cX5_read 52 = .ok (.aload_n 0, 1) := by decide +kernel
theorem dX5_read_53 : decode cX5_read 53 = .ok (.aload_n 1, 1) := by decide +kernel
theorem dX5_read_54 : decode cX5_read 54 = .ok (.iload_n 3, 1) := by decide +kernel
theorem dX5_read_55 : decode cX5_read 55 = .ok (.bipush 10, 2) := by decide +kernel
theorem dX5_read_57 : decode cX5_read 57 = .ok (.invokevirtual 29, 3) := by decide +kernel
theorem dX5_read_60 : decode cX5_read 60 = .ok (.goto 32, 3) := by decide +kernel
theorem dX5_read_63 : decode cX5_read 63 = .ok (.aload_n 1, 1) := by decide +kernel
theorem dX5_read_64 : decode cX5_read 64 = .ok (.iload_n 3, 1) := by decide +kernel
theorem dX5_read_65 : decode cX5_read 65 = .ok (.invokestatic 33, 3) := by decide +kernel
theorem dX5_read_68 : decode cX5_read 68 = .ok (.ifCond .eq 16, 3) := by decide +kernel
theorem dX5_read_71 : decode cX5_read 71 = .ok (.aload_n 0, 1) := by decide +kernel
theorem dX5_read_72 : decode cX5_read 72 = .ok (.aload_n 1, 1) := by decide +kernel
theorem dX5_read_73 : decode cX5_read 73 = .ok (.iload_n 3, 1) := by decide +kernel
theorem dX5_read_74 : decode cX5_read 74 = .ok (.iconst 2, 1) := by decide +kernel
theorem dX5_read_75 : decode cX5_read 75 = .ok (.iadd, 1) := by decide +kernel
theorem dX5_read_76 : decode cX5_read 76 = .ok (.bipush 16, 2) := by decide +kernel
theorem dX5_read_78 : decode cX5_read 78 = .ok (.invokevirtual 29, 3) := by decide +kernel
theorem dX5_read_81 : decode cX5_read 81 = .ok (.goto 11, 3) := by decide +kernel
theorem dX5_read_84 : decode cX5_read 84 = .ok (.aload_n 0, 1) := by decide +kernel
theorem dX5_read_85 : decode cX5_read 85 = .ok (.aload_n 1, 1) := by decide +kernel
theorem dX5_read_86 : decode cX5_read 86 = .ok (.iload_n 3, 1) := by decide +kernel
theorem dX5_read_87 : decode cX5_read 87 = .ok (.bipush 8, 2) := by decide +kernel
theorem dX5_read_89 : decode cX5_read 89 = .ok (.invokevirtual 29, 3) := by decide +kernel
theorem dX5_read_92 : decode cX5_read 92 = .ok (.iload_n 2, 1) := by decide +kernel
theorem dX5_read_93 : decode cX5_read 93 = .ok (.bipush 45, 2) := by decide +kernel
theorem dX5_read_95 : decode cX5_read 95 = .ok (.if_icmp .ne 12, 3) := by decide +kernel
theorem dX5_read_98 : decode cX5_read 98 = .ok (.aload_n 0, 1) := by decide +kernel
theorem dX5_read_99 : decode cX5_read 99 = .ok (.aload_n 0, 1) := by decide +kernel
theorem dX5_read_100 : decode cX5_read 100 = .ok (.getfield 9, 3) := by decide +kernel
theorem dX5_read_103 : decode cX5_read 103 = .ok (.lneg, 1) := by decide +kernel
theorem dX5_read_104 : decode cX5_read 104 = .ok (.putfield 9, 3) := by decide +kernel
theorem dX5_read_107 : decode cX5_read 107 = .ok (.return_, 1) := by decide +kernel
theorem dX5_readCharacter_0 : decode cX5_readCharacter 0 = .ok (.aload_n 0, 1) := by decide +kernel
theorem dX5_readCharacter_1 : decode cX5_readCharacter 1 = .ok (.aload_n 1, 1) := by decide +kernel
theorem dX5_readCharacter_2 : decode cX5_readCharacter 2 = .ok (.invokevirtual 37, 3) := by decide +kernel
theorem dX5_readCharacter_5 : decode cX5_readCharacter 5 = .ok (.iconst 1, 1) := by decide +kernel
theorem dX5_readCharacter_6 : decode cX5_readCharacter 6 = .ok (.if_icmp .le 12, 3) := by decide +kernel
theorem dX5_readCharacter_9 : decode cX5_readCharacter 9 = .ok (.aload_n 1, 1) := by decide +kernel
theorem dX5_readCharacter_10 : decode cX5_readCharacter 10 = .ok (.iconst 1, 1) := by decide +kernel
theorem dX5_readCharacter_11 : decode cX5_readCharacter 11 = .ok (.invokevirtual 19, 3) := by decide +kernel
theorem dX5_readCharacter_14 : decode cX5_readCharacter 14 = .ok (.i2l, 1) := by decide +kernel
theorem dX5_readCharacter_15 : decode cX5_readCharacter 15 = .ok (.goto 4, 3) := by decide +kernel
theorem dX5_readCharacter_18 : decode cX5_readCharacter 18 = .ok (.lconst 0, 1) := by decide +kernel
theorem dX5_readCharacter_19 : decode cX5_readCharacter 19 = .ok (.putfield 9, 3) := by decide +kernel
theorem dX5_readCharacter_22 : decode cX5_readCharacter 22 = .ok (.aload_n 0, 1) := by decide +kernel
theorem dX5_readCharacter_23 : decode cX5_readCharacter 23 = .ok (.aload_n 1, 1) := by decide +kernel
theorem dX5_readCharacter_24 : decode cX5_readCharacter 24 = .ok (.invokevirtual 37, 3) := by decide +kernel
theorem dX5_readCharacter_27 : decode cX5_readCharacter 27 = .ok (.iconst 2, 1) := by decide +kernel
theorem dX5_readCharacter_28 : decode cX5_readCharacter 28 = .ok (.if_icmp .eq 7, 3) := by decide +kernel
theorem dX5_readCharacter_31 : decode cX5_readCharacter 31 = .ok (.iconst 1, 1) := by decide +kernel
theorem dX5_readCharacter_32 : decode cX5_readCharacter 32 = .ok (.goto 4, 3) := by decide +kernel
theorem dX5_readCharacter_35 : decode cX5_readCharacter 35 = .ok (.iconst 0, 1) := by decide +kernel
theorem dX5_readCharacter_36 : decode cX5_readCharacter 36 = .ok (.putfield 15, 3) := by decide +kernel
theorem dX5_readCharacter_39 : decode cX5_readCharacter 39 = .ok (.return_, 1) := by decide +kernel
theorem dX5_isHexadecimal_0 : decode cX5_isHexadecimal 0 = .ok (.aload_n 0, 1) := by decide +kernel
theorem dX5_isHexadecimal_1 : decode cX5_isHexadecimal 1 = .ok (.iload_n 1, 1) := by decide +kernel
theorem dX5_isHexadecimal_2 : decode cX5_isHexadecimal 2 = .ok (.iconst 1, 1) := by decide +kernel
theorem dX5_isHexadecimal_3 : decode cX5_isHexadecimal 3 = .ok (.iadd, 1) := by decide +kernel
theorem dX5_isHexadecimal_4 : decode cX5_isHexadecimal 4 = .ok (.invokevirtual 19, 3) := by decide +kernel
theorem dX5_isHexadecimal_7 : decode cX5_isHexadecimal 7 = .ok (.istore_n 2, 1) := by decide +kernel
theorem dX5_isHexadecimal_8 : decode cX5_isHexadecimal 8 = .ok (.iload_n 2, 1) := by decide +kernel
theorem dX5_isHexadecimal_9 : decode cX5_isHexadecimal 9 = .ok (.bipush 120, 2) := by decide +kernel
theorem dX5_isHexadecimal_11 : decode cX5_isHexadecimal 11 = .ok (.if_icmp .eq 9, 3) := by decide +kernel
theorem dX5_isHexadecimal_14 : decode cX5_isHexadecimal 14 = .ok (.iload_n 2, 1) := by decide +kernel
theorem dX5_isHexadecimal_15 : decode cX5_isHexadecimal 15 = .ok (.bipush 88, 2) := by decide +kernel
theorem dX5_isHexadecimal_17 : decode cX5_isHexadecimal 17 = .ok (.if_icmp .ne 23, 3) := by decide +kernel
theorem dX5_isHexadecimal_20 : decode cX5_isHexadecimal 20 = .ok (.aload_n 0, 1) := by decide +kernel
theorem dX5_isHexadecimal_21 : decode cX5_isHexadecimal 21 = .ok (.iload_n 1, 1) := by decide +kernel
theorem dX5_isHexadecimal_22 : decode cX5_isHexadecimal 22 = .ok (.iconst 2, 1) := by decide +kernel
theorem dX5_isHexadecimal_23 : decode cX5_isHexadecimal 23 = .ok (.iadd, 1) := by decide +kernel
theorem dX5_isHexadecimal_24 : decode cX5_isHexadecimal 24 = .ok (.invokevirtual 19, 3) := by decide +kernel
theorem dX5_isHexadecimal_27 : decode cX5_isHexadecimal 27 = .ok (.bipush 16, 2) := by decide +kernel
theorem dX5_isHexadecimal_29 : decode cX5_isHexadecimal 29 = .ok (.invokestatic 41, 3) := by decide +kernel
theorem dX5_isHexadecimal_32 : decode cX5_isHexadecimal 32 = .ok (.iconst (-1), 1) := by decide +kernel
theorem dX5_isHexadecimal_33 : decode cX5_isHexadecimal 33 = .ok (.if_icmp .eq 7, 3) := by decide +kernel
theorem dX5_isHexadecimal_36 : decode cX5_isHexadecimal 36 = .ok (.iconst 1, 1) := by decide +kernel
theorem dX5_isHexadecimal_37 : decode cX5_isHexadecimal 37 = .ok (.goto 4, 3) := by decide +kernel
theorem dX5_isHexadecimal_40 : decode cX5_isHexadecimal 40 = .ok (.iconst 0, 1) := by decide +kernel
theorem dX5_isHexadecimal_41 : decode cX5_isHexadecimal 41 = .ok (.ireturn, 1) := by decide +kernel
theorem dX5_readDigits_0 : decode cX5_readDigits 0 = .ok (.iload_n 2, 1) := by decide +kernel
theorem dX5_readDigits_1 : decode cX5_readDigits 1 = .ok (.istore 4, 2) := by decide +kernel
theorem dX5_readDigits_3 : decode cX5_readDigits 3 = .ok (.aload_n 0, 1) := by decide +kernel
theorem dX5_readDigits_4 : decode cX5_readDigits 4 = .ok (.lconst 0, 1) := by decide +kernel
theorem dX5_readDigits_5 : decode cX5_readDigits 5 = .ok (.putfield 9, 3) := by decide +kernel
theorem dX5_readDigits_8 : decode cX5_readDigits 8 = .ok (.iload 4, 2) := by decide +kernel
theorem dX5_readDigits_10 : decode cX5_readDigits 10 = .ok (.aload_n 1, 1) := by decide +kernel
theorem dX5_readDigits_11 : decode cX5_readDigits 11 = .ok (.invokevirtual 37, 3) := by decide +kernel
theorem dX5_readDigits_14 : decode cX5_readDigits 14 = .ok (.if_icmp .ge 46, 3) := by decide +kernel
theorem dX5_readDigits_17 : decode cX5_readDigits 17 = .ok (.aload_n 1, 1) := by decide +kernel
theorem dX5_readDigits_18 : decode cX5_readDigits 18 = .ok (.iload 4, 2) := by decide +kernel
theorem dX5_readDigits_20 : decode cX5_readDigits 20 = .ok (.invokevirtual 19, 3) := by decide +kernel
theorem dX5_readDigits_23 : decode cX5_readDigits 23 = .ok (.iload_n 3, 1) := by decide +kernel
theorem dX5_readDigits_24 : decode cX5_readDigits 24 = .ok (.invokestatic 41, 3) := by decide +kernel
theorem dX5_readDigits_27 : decode cX5_readDigits 27 = .ok (.iconst (-1), 1) := by decide +kernel
theorem dX5_readDigits_28 : decode cX5_readDigits 28 = .ok (.if_icmp .eq 32, 3) := by decide +kernel
theorem dX5_readDigits_31 : decode cX5_readDigits 31 = .ok (.aload_n 0, 1) := by decide +kernel
theorem dX5_readDigits_32 : decode cX5_readDigits 32 = .ok (.aload_n 0, 1) := by decide +kernel
theorem dX5_readDigits_33 : decode cX5_readDigits 33 = .ok (.getfield 9, 3) := by decide +kernel
theorem dX5_readDigits_36 : decode cX5_readDigits 36 = .ok (.iload_n 3, 1) := by decide +kernel
theorem dX5_readDigits_37 : decode cX5_readDigits 37 = .ok (.i2l, 1) := by decide +kernel
theorem dX5_readDigits_38 : decode cX5_readDigits 38 = .ok (.lmul, 1) := by decide +kernel
theorem dX5_readDigits_39 : decode cX5_readDigits 39 = .ok (.aload_n 1, 1) := by decide +kernel
theorem dX5_readDigits_40 : decode cX5_readDigits 40 = .ok (.iload 4, 2) := by decide +kernel
theorem dX5_readDigits_42 : decode cX5_readDigits 42 = .ok (.invokevirtual 19, 3) := by decide +kernel
theorem dX5_readDigits_45 : decode cX5_readDigits 45 = .ok (.iload_n 3, 1) := by decide +kernel
theorem dX5_readDigits_46 : decode cX5_readDigits 46 = .ok (.invokestatic 41, 3) := by decide +kernel
theorem dX5_readDigits_49 : decode cX5_readDigits 49 = .ok (.i2l, 1) := by decide +kernel
theorem dX5_readDigits_50 : decode cX5_readDigits 50 = .ok (.ladd, 1) := by decide +kernel
theorem dX5_readDigits_51 : decode cX5_readDigits 51 = .ok (.putfield 9, 3) := by decide +kernel
theorem dX5_readDigits_54 : decode cX5_readDigits 54 = .ok (.iinc 4 1, 3) := by decide +kernel
theorem dX5_readDigits_57 : decode cX5_readDigits 57 = .ok (.goto (-49), 3) := by decide +kernel
theorem dX5_readDigits_60 : decode cX5_readDigits 60 = .ok (.aload_n 0, 1) := by decide +kernel
theorem dX5_readDigits_61 : decode cX5_readDigits 61 = .ok (.iload 4, 2) := by decide +kernel
theorem dX5_readDigits_63 : decode cX5_readDigits 63 = .ok (.iload_n 2, 1) := by decide +kernel
theorem dX5_readDigits_64 : decode cX5_readDigits 64 = .ok (.if_icmp .eq 12, 3) := by decide +kernel
theorem dX5_readDigits_67 : decode cX5_readDigits 67 = .ok (.iload 4, 2) := by decide +kernel
theorem dX5_readDigits_69 : decode cX5_readDigits 69 = .ok (.aload_n 1, 1) := by decide +kernel
theorem dX5_readDigits_70 : decode cX5_readDigits 70 = .ok (.invokevirtual 37, 3) := by decide +kernel
theorem dX5_readDigits_73 : decode cX5_readDigits 73 = .ok (.if_icmp .ge 7, 3) := by decide +kernel
theorem dX5_readDigits_76 : decode cX5_readDigits 76 = .ok (.iconst 1, 1) := by decide +kernel
theorem dX5_readDigits_77 : decode cX5_readDigits 77 = .ok (.goto 4, 3) := by decide +kernel
theorem dX5_readDigits_80 : decode cX5_readDigits 80 = .ok (.iconst 0, 1) := by decide +kernel
theorem dX5_readDigits_81 : decode cX5_readDigits 81 = .ok (.putfield 15, 3) := by decide +kernel
theorem dX5_readDigits_84 : decode cX5_readDigits 84 = .ok (.return_, 1) := by decide +kernel
