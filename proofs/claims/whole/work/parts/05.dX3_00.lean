theorem dX3_init_0 : decode cX3_init 0 = .ok (.aload_n 0, 1) := by decide +kernel
theorem dX3_init_1 : decode cX3_init 1 = .ok (.invokespecial 3, 3) := by decide +kernel
theorem dX3_init_4 : decode cX3_init 4 = .ok (.aload_n 0, 1) := by decide +kernel
theorem dX3_init_5 : decode cX3_init 5 = .ok (.iconst 0, 1) := by decide +kernel
theorem dX3_init_6 : decode cX3_init 6 = .ok (.putfield 9, 3) := by decide +kernel
theorem dX3_init_9 : decode cX3_init 9 = .ok (.aload_n 0, 1) := by decide +kernel
theorem dX3_init_10 : decode cX3_init 10 = .ok (.iconst 0, 1) := by decide +kernel
theorem dX3_init_11 : decode cX3_init 11 = .ok (.putfield 15, 3) := by decide +kernel
theorem dX3_init_14 : decode cX3_init 14 = .ok (.return_, 1) := by decide +kernel
theorem dX3_value_0 : decode cX3_value 0 = .ok (.aload_n 0, 1) := by decide +kernel
theorem dX3_value_1 : decode cX3_value 1 = .ok (.getfield 9, 3) := by decide +kernel
theorem dX3_value_4 : decode cX3_value 4 = .ok (.ireturn, 1) := by decide +kernel
theorem dX3_end_0 : decode cX3_end 0 = .ok (.aload_n 0, 1) := by decide +kernel
theorem dX3_end_1 : decode cX3_end 1 = .ok (.getfield 15, 3) := by decide +kernel
theorem dX3_end_4 : decode cX3_end 4 = .ok (.ireturn, 1) := by decide +kernel
theorem dX3_readInFormat_0 : decode cX3_readInFormat 0 = .ok (.aload_n 0, 1) := by decide +kernel
theorem dX3_readInFormat_1 : decode cX3_readInFormat 1 = .ok (.aload_n 1, 1) := by decide +kernel
theorem dX3_readInFormat_2 : decode cX3_readInFormat 2 = .ok (.iload_n 2, 1) := by decide +kernel
theorem dX3_readInFormat_3 : decode cX3_readInFormat 3 = .ok (.invokevirtual 18, 3) := by decide +kernel
theorem dX3_readInFormat_6 : decode cX3_readInFormat 6 = .ok (.ifCond .eq 5, 3) := by decide +kernel
theorem dX3_readInFormat_9 : decode cX3_readInFormat 9 = .ok (.iconst 1, 1) := by decide +kernel
theorem dX3_readInFormat_10 : decode cX3_readInFormat 10 = .ok (.ireturn, 1) := by decide +kernel
theorem dX3_readInFormat_11 : decode cX3_readInFormat 11 = .ok (.aload_n 0, 1) := by decide +kernel
theorem dX3_readInFormat_12 : decode cX3_readInFormat 12 = .ok (.aload_n 1, 1) := by decide +kernel
theorem dX3_readInFormat_13 : decode cX3_readInFormat 13 = .ok (.iload_n 2, 1) := by decide +kernel
theorem dX3_readInFormat_14 : decode cX3_readInFormat 14 = .ok (.invokevirtual 22, 3) := by decide +kernel
theorem dX3_readInFormat_17 : decode cX3_readInFormat 17 = .ok (.aload_n 0, 1) := by decide +kernel
theorem dX3_readInFormat_18 : decode cX3_readInFormat 18 = .ok (.getfield 15, 3) := by decide +kernel
theorem dX3_readInFormat_21 : decode cX3_readInFormat 21 = .ok (.iload_n 2, 1) := by decide +kernel
theorem dX3_readInFormat_22 : decode cX3_readInFormat 22 = .ok (.if_icmp .le 7, 3) := by decide +kernel
theorem dX3_readInFormat_25 : decode cX3_readInFormat 25 = .ok (.iconst 1, 1) := by decide +kernel
theorem dX3_readInFormat_26 : decode cX3_readInFormat 26 = .ok (.goto 4, 3) := by decide +kernel
theorem dX3_readInFormat_29 : decode cX3_readInFormat 29 = .ok (.iconst 0, 1) := by decide +kernel
theorem dX3_readInFormat_30 : decode cX3_readInFormat 30 = .ok (.ireturn, 1) := by decide +kernel
theorem dX3_readInText_0 : decode cX3_readInText 0 = .ok (.aload_n 0, 1) := by decide +kernel
theorem dX3_readInText_1 : decode cX3_readInText 1 = .ok (.aload_n 1, 1) := by decide +kernel
theorem dX3_readInText_2 : decode cX3_readInText 2 = .ok (.iload_n 2, 1) := by decide +kernel
theorem dX3_readInText_3 : decode cX3_readInText 3 = .ok (.invokevirtual 18, 3) := by decide +kernel
theorem dX3_readInText_6 : decode cX3_readInText 6 = .ok (.ifCond .eq 5, 3) := by decide +kernel
theorem dX3_readInText_9 : decode cX3_readInText 9 = .ok (.iconst 1, 1) := by decide +kernel
theorem dX3_readInText_10 : decode cX3_readInText 10 = .ok (.ireturn, 1) := by decide +kernel
theorem dX3_readInText_11 : decode cX3_readInText 11 = .ok (.aload_n 1, 1) := by decide +kernel
theorem dX3_readInText_12 : decode cX3_readInText 12 = .ok (.iload_n 2, 1) := by decide +kernel
theorem dX3_readInText_13 : decode cX3_readInText 13 = .ok (.invokevirtual 26, 3) := by decide +kernel
theorem dX3_readInText_16 : decode cX3_readInText 16 = .ok (.bipush 48, 2) := by decide +kernel
theorem dX3_readInText_18 : decode cX3_readInText 18 = .ok (.if_icmp .eq 5, 3) := by decide +kernel
theorem dX3_readInText_21 : decode cX3_readInText 21 = .ok (.iconst 0, 1) := by decide +kernel
theorem dX3_readInText_22 : decode cX3_readInText 22 = .ok (.ireturn, 1) := by decide +kernel
theorem dX3_readInText_23 : decode cX3_readInText 23 = .ok (.aload_n 0, 1) := by decide +kernel
theorem dX3_readInText_24 : decode cX3_readInText 24 = .ok (.aload_n 1, 1) := by decide +kernel
theorem dX3_readInText_25 : decode cX3_readInText 25 = .ok (.iload_n 2, 1) := by decide +kernel
theorem dX3_readInText_26 : decode cX3_readInText 26 = .ok (.iconst 1, 1) := by decide +kernel
theorem dX3_readInText_27 : decode cX3_readInText 27 = .ok (.iadd, 1) := by decide +kernel
theorem dX3_readInText_28 : decode cX3_readInText 28 = .ok (.invokevirtual 22, 3) := by decide +kernel
theorem dX3_readInText_31 : decode cX3_readInText 31 = .ok (.iconst 1, 1) := by decide +kernel
theorem dX3_readInText_32 : decode cX3_readInText 32 = .ok (.ireturn, 1) := by decide +kernel
theorem dX3_readLetter_0 : decode cX3_readLetter 0 = .ok (.aload_n 0, 1) := by decide +kernel
theorem dX3_readLetter_1 : decode cX3_readLetter 1 = .ok (.aload_n 1, 1) := by decide +kernel
theorem dX3_readLetter_2 : decode cX3_readLetter 2 = .ok (.iload_n 2, 1) := by decide +kernel
theorem dX3_readLetter_3 : decode cX3_readLetter 3 = .ok (.invokevirtual 26, 3) := by decide +kernel
theorem dX3_readLetter_6 : decode cX3_readLetter 6 = .ok (.invokestatic 32, 3) := by decide +kernel
theorem dX3_readLetter_9 : decode cX3_readLetter 9 = .ok (.putfield 9, 3) := by decide +kernel
theorem dX3_readLetter_12 : decode cX3_readLetter 12 = .ok (.aload_n 0, 1) := by decide +kernel
theorem dX3_readLetter_13 : decode cX3_readLetter 13 = .ok (.iload_n 2, 1) := by decide +kernel
theorem dX3_readLetter_14 : decode cX3_readLetter 14 = .ok (.iconst 1, 1) := by decide +kernel
theorem dX3_readLetter_15 : decode cX3_readLetter 15 = .ok (.iadd, 1) := by decide +kernel
theorem dX3_readLetter_16 : decode cX3_readLetter 16 = .ok (.putfield 15, 3) := by decide +kernel
theorem dX3_readLetter_19 : decode cX3_readLetter 19 = .ok (.aload_n 0, 1) := by decide +kernel
theorem dX3_readLetter_20 : decode cX3_readLetter 20 = .ok (.getfield 9, 3) := by decide +kernel
theorem dX3_readLetter_23 : decode cX3_readLetter 23 = .ok (.iconst (-1), 1) := by decide +kernel
theorem dX3_readLetter_24 : decode cX3_readLetter 24 = .ok (.if_icmp .eq 7, 3) := by decide +kernel
theorem dX3_readLetter_27 : decode cX3_readLetter 27 = .ok (.iconst 1, 1) := by decide +kernel
theorem dX3_readLetter_28 : decode cX3_readLetter 28 = .ok (.goto 4, 3) := by decide +kernel
theorem dX3_readLetter_31 : decode cX3_readLetter 31 = .ok (.iconst 0, 1) := by decide +kernel
theorem dX3_readLetter_32 : decode cX3_readLetter 32 = .ok (.ireturn, 1) := by decide +kernel
theorem dX3_readOctal_0 : decode cX3_readOctal 0 = .ok (.aload_n 0, 1) := by decide +kernel
theorem dX3_readOctal_1 : decode cX3_readOctal 1 = .ok (.iconst 0, 1) := by decide +kernel
theorem dX3_readOctal_2 : decode cX3_readOctal 2 = .ok (.putfield 9, 3) := by decide +kernel
theorem dX3_readOctal_5 : decode cX3_readOctal 5 = .ok (.aload_n 0, 1) := by decide +kernel
theorem dX3_readOctal_6 : decode cX3_readOctal 6 = .ok (.iload_n 2, 1) := by decide +kernel
theorem dX3_readOctal_7 : decode cX3_readOctal 7 = .ok (.putfield 15, 3) := by decide +kernel
theorem dX3_readOctal_10 : decode cX3_readOctal 10 = .ok (.iconst 0, 1) := by decide +kernel
theorem dX3_readOctal_11 : decode cX3_readOctal 11 = .ok (.istore_n 3, 1) := by decide +kernel
theorem dX3_readOctal_12 : decode cX3_readOctal 12 = .ok (.iload_n 3, 1) := by decide +kernel
theorem dX3_readOctal_13 : decode cX3_readOctal 13 = .ok (.iconst 3, 1) := by decide +kernel
theorem dX3_readOctal_14 : decode cX3_readOctal 14 = .ok (.if_icmp .ge 61, 3) := by decide +kernel
theorem dX3_readOctal_17 : decode cX3_readOctal 17 = .ok (.aload_n 1, 1) := by decide +kernel
theorem dX3_readOctal_18 : decode cX3_readOctal 18 = .ok (.aload_n 0, 1) := by decide +kernel
theorem dX3_readOctal_19 : decode cX3_readOctal 19 = .ok (.getfield 15, 3) := by decide +kernel
theorem dX3_readOctal_22 : decode cX3_readOctal 22 = .ok (.invokevirtual 26, 3) := by decide +kernel
theorem dX3_readOctal_25 : decode cX3_readOctal 25 = .ok (.bipush 8, 2) := by decide +kernel
theorem dX3_readOctal_27 : decode cX3_readOctal 27 = .ok (.invokestatic 35, 3) := by decide +kernel
theorem dX3_readOctal_30 : decode cX3_readOctal 30 = .ok (.iconst (-1), 1) := by decide +kernel
theorem dX3_readOctal_31 : decode cX3_readOctal 31 = .ok (.if_icmp .eq 44, 3) := by decide +kernel
theorem dX3_readOctal_34 : decode cX3_readOctal 34 = .ok (.aload_n 0, 1) := by decide +kernel
theorem dX3_readOctal_35 : decode cX3_readOctal 35 = .ok (.aload_n 0, 1) := by decide +kernel
theorem dX3_readOctal_36 : decode cX3_readOctal 36 = .ok (.getfield 9, 3) := by decide +kernel
theorem dX3_readOctal_39 : decode cX3_readOctal 39 = .ok (.bipush 8, 2) := by decide +kernel
theorem dX3_readOctal_41 : decode cX3_readOctal 41 = .ok (.imul, 1) := by decide +kernel
theorem dX3_readOctal_42 : decode cX3_readOctal 42 = .ok (.aload_n 1, 1) := by decide +kernel
theorem dX3_readOctal_43 : decode cX3_readOctal 43 = .ok (.aload_n 0, 1) := by decide +kernel
theorem dX3_readOctal_44 : decode cX3_readOctal 44 = .ok (.getfield 15, 3) := by decide +kernel
theorem dX3_readOctal_47 : decode cX3_readOctal 47 = .ok (.invokevirtual 26, 3) := by decide +kernel
theorem dX3_readOctal_50 : decode cX3_readOctal 50 = .ok (.bipush 8, 2) := by decide +kernel
theorem dX3_readOctal_52 : decode cX3_readOctal 52 = .ok (.invokestatic 35, 3) := by decide +kernel
theorem dX3_readOctal_55 : decode cX3_readOctal 55 = .ok (.iadd, 1) := by decide +kernel
theorem dX3_readOctal_56 : decode cX3_readOctal 56 = .ok (.putfield 9, 3) := by decide +kernel
theorem dX3_readOctal_59 : decode cX3_readOctal 59 = .ok (.aload_n 0, 1) := by decide +kernel
theorem dX3_readOctal_60 : decode cX3_readOctal 60 = .ok (.dup, 1) := by decide +kernel
theorem dX3_readOctal_61 : decode cX3_readOctal 61 = .ok (.getfield 15, 3) := by decide +kernel
theorem dX3_readOctal_64 : decode cX3_readOctal 64 = .ok (.iconst 1, 1) := by decide +kernel
theorem dX3_readOctal_65 : decode cX3_readOctal 65 = .ok (.iadd, 1) := by decide +kernel
theorem dX3_readOctal_66 : decode cX3_readOctal 66 = .ok (.putfield 15, 3) := by decide +kernel
theorem dX3_readOctal_69 : decode cX3_readOctal 69 = .ok (.iinc 3 1, 3) := by decide +kernel
theorem dX3_readOctal_72 : decode cX3_readOctal 72 = .ok (.goto (-60), 3) := by decide +kernel
theorem dX3_readOctal_75 : decode cX3_readOctal 75 = .ok (.return_, 1) := by decide +kernel
theorem dX3_meaningOf_0 : decode cX3_meaningOf 0 = .ok (.iload_n 0, 1) := by decide +kernel
theorem dX3_meaningOf_1 : decode cX3_meaningOf 1 = .ok (.tableswitch 147 92 118 #[123, 147, 147, 147, 147, 126, 129, 147, 147, 147, 132, 147, 147, 147, 147, 147, 147, 147, 135, 147, 147, 147, 138, 147, 141, 147, 144], 123) := by decide +kernel
theorem dX3_meaningOf_124 : decode cX3_meaningOf 124 = .ok (.bipush 92, 2) := by decide +kernel
theorem dX3_meaningOf_126 : decode cX3_meaningOf 126 = .ok (.ireturn, 1) := by decide +kernel
theorem dX3_meaningOf_127 : decode cX3_meaningOf 127 = .ok (.bipush 7, 2) := by decide +kernel
theorem dX3_meaningOf_129 : decode cX3_meaningOf 129 = .ok (.ireturn, 1) := by decide +kernel
theorem dX3_meaningOf_130 : decode cX3_meaningOf 130 = .ok (.bipush 8, 2) := by decide +kernel
theorem dX3_meaningOf_132 : decode cX3_meaningOf 132 = .ok (.ireturn, 1) := by decide +kernel
theorem dX3_meaningOf_133 : decode cX3_meaningOf 133 = .ok (.bipush 12, 2) := by decide +kernel
theorem dX3_meaningOf_135 : decode cX3_meaningOf 135 = .ok (.ireturn, 1) := by decide +kernel
theorem dX3_meaningOf_136 : decode cX3_meaningOf 136 = .ok (.bipush 10, 2) := by decide +kernel
theorem dX3_meaningOf_138 : decode cX3_meaningOf 138 = .ok (.ireturn, 1) := by decide +kernel
theorem dX3_meaningOf_139 : decode cX3_meaningOf 139 = .ok (.bipush 13, 2) := by decide +kernel
theorem dX3_meaningOf_141 : decode cX3_meaningOf 141 = .ok (.ireturn, 1) := by decide +kernel
theorem dX3_meaningOf_142 : decode cX3_meaningOf 142 = .ok (.bipush 9, 2) := by decide +kernel
theorem dX3_meaningOf_144 : decode cX3_meaningOf 144 = .ok (.ireturn, 1) := by decide +kernel
theorem dX3_meaningOf_145 : decode cX3_meaningOf 145 = .ok (.bipush 11, 2) := by decide +kernel
theorem dX3_meaningOf_147 : decode cX3_meaningOf 147 = .ok (.ireturn, 1) := by decide +kernel
theorem dX3_meaningOf_148 : decode cX3_meaningOf 148 = .ok (.iconst (-1), 1) := by decide +kernel
theorem dX3_meaningOf_149 : decode cX3_meaningOf 149 = .ok (.ireturn, 1) := by decide +kernel
