theorem dX2_init_0 : decode cX2_init 0 = .ok (.aload_n 0, 1) := by decide +kernel
theorem dX2_init_1 : decode cX2_init 1 = .ok (.invokespecial 3, 3) := by decide +kernel
theorem dX2_init_4 : decode cX2_init 4 = .ok (.aload_n 0, 1) := by decide +kernel
theorem dX2_init_5 : decode cX2_init 5 = .ok (.invokevirtual 9, 3) := by decide +kernel
theorem dX2_init_8 : decode cX2_init 8 = .ok (.return_, 1) := by decide +kernel
theorem dX2_read_0 : decode cX2_read 0 = .ok (.aload_n 0, 1) := by decide +kernel
theorem dX2_read_1 : decode cX2_read 1 = .ok (.invokevirtual 9, 3) := by decide +kernel
theorem dX2_read_4 : decode cX2_read 4 = .ok (.aload_n 0, 1) := by decide +kernel
theorem dX2_read_5 : decode cX2_read 5 = .ok (.iload_n 2, 1) := by decide +kernel
theorem dX2_read_6 : decode cX2_read 6 = .ok (.putfield 14, 3) := by decide +kernel
theorem dX2_read_9 : decode cX2_read 9 = .ok (.aload_n 0, 1) := by decide +kernel
theorem dX2_read_10 : decode cX2_read 10 = .ok (.aload_n 1, 1) := by decide +kernel
theorem dX2_read_11 : decode cX2_read 11 = .ok (.invokevirtual 18, 3) := by decide +kernel
theorem dX2_read_14 : decode cX2_read 14 = .ok (.aload_n 0, 1) := by decide +kernel
theorem dX2_read_15 : decode cX2_read 15 = .ok (.aload_n 1, 1) := by decide +kernel
theorem dX2_read_16 : decode cX2_read 16 = .ok (.invokevirtual 22, 3) := by decide +kernel
theorem dX2_read_19 : decode cX2_read 19 = .ok (.aload_n 0, 1) := by decide +kernel
theorem dX2_read_20 : decode cX2_read 20 = .ok (.aload_n 1, 1) := by decide +kernel
theorem dX2_read_21 : decode cX2_read 21 = .ok (.invokevirtual 25, 3) := by decide +kernel
theorem dX2_read_24 : decode cX2_read 24 = .ok (.aload_n 0, 1) := by decide +kernel
theorem dX2_read_25 : decode cX2_read 25 = .ok (.aload_n 1, 1) := by decide +kernel
theorem dX2_read_26 : decode cX2_read 26 = .ok (.invokevirtual 28, 3) := by decide +kernel
theorem dX2_read_29 : decode cX2_read 29 = .ok (.aload_n 0, 1) := by decide +kernel
theorem dX2_read_30 : decode cX2_read 30 = .ok (.aload_n 1, 1) := by decide +kernel
theorem dX2_read_31 : decode cX2_read 31 = .ok (.aload_n 0, 1) := by decide +kernel
theorem dX2_read_32 : decode cX2_read 32 = .ok (.getfield 14, 3) := by decide +kernel
theorem dX2_read_35 : decode cX2_read 35 = .ok (.invokevirtual 31, 3) := by decide +kernel
theorem dX2_read_38 : decode cX2_read 38 = .ok (.putfield 37, 3) := by decide +kernel
theorem dX2_read_41 : decode cX2_read 41 = .ok (.aload_n 0, 1) := by decide +kernel
theorem dX2_read_42 : decode cX2_read 42 = .ok (.dup, 1) := by decide +kernel
theorem dX2_read_43 : decode cX2_read 43 = .ok (.getfield 14, 3) := by decide +kernel
theorem dX2_read_46 : decode cX2_read 46 = .ok (.iconst 1, 1) := by decide +kernel
theorem dX2_read_47 : decode cX2_read 47 = .ok (.iadd, 1) := by decide +kernel
theorem dX2_read_48 : decode cX2_read 48 = .ok (.putfield 14, 3) := by decide +kernel
theorem dX2_read_51 : decode cX2_read 51 = .ok (.aload_n 0, 1) := by decide +kernel
theorem dX2_read_52 : decode cX2_read 52 = .ok (.invokevirtual 40, 3) := by decide +kernel
theorem dX2_read_55 : decode cX2_read 55 = .ok (.ireturn, 1) := by decide +kernel
theorem dX2_isSigned_0 : decode cX2_isSigned 0 = .ok (.aload_n 0, 1) := by decide +kernel
theorem dX2_isSigned_1 : decode cX2_isSigned 1 = .ok (.getfield 37, 3) := by decide +kernel
theorem dX2_isSigned_4 : decode cX2_isSigned 4 = .ok (.bipush 100, 2) := by decide +kernel
theorem dX2_isSigned_6 : decode cX2_isSigned 6 = .ok (.if_icmp .eq 12, 3) := by decide +kernel
theorem dX2_isSigned_9 : decode cX2_isSigned 9 = .ok (.aload_n 0, 1) := by decide +kernel
theorem dX2_isSigned_10 : decode cX2_isSigned 10 = .ok (.getfield 37, 3) := by decide +kernel
theorem dX2_isSigned_13 : decode cX2_isSigned 13 = .ok (.bipush 105, 2) := by decide +kernel
theorem dX2_isSigned_15 : decode cX2_isSigned 15 = .ok (.if_icmp .ne 7, 3) := by decide +kernel
theorem dX2_isSigned_18 : decode cX2_isSigned 18 = .ok (.iconst 1, 1) := by decide +kernel
theorem dX2_isSigned_19 : decode cX2_isSigned 19 = .ok (.goto 4, 3) := by decide +kernel
theorem dX2_isSigned_22 : decode cX2_isSigned 22 = .ok (.iconst 0, 1) := by decide +kernel
theorem dX2_isSigned_23 : decode cX2_isSigned 23 = .ok (.ireturn, 1) := by decide +kernel
theorem dX2_isHexadecimal_0 : decode cX2_isHexadecimal 0 = .ok (.aload_n 0, 1) := by decide +kernel
theorem dX2_isHexadecimal_1 : decode cX2_isHexadecimal 1 = .ok (.getfield 37, 3) := by decide +kernel
theorem dX2_isHexadecimal_4 : decode cX2_isHexadecimal 4 = .ok (.bipush 120, 2) := by decide +kernel
theorem dX2_isHexadecimal_6 : decode cX2_isHexadecimal 6 = .ok (.if_icmp .eq 12, 3) := by decide +kernel
theorem dX2_isHexadecimal_9 : decode cX2_isHexadecimal 9 = .ok (.aload_n 0, 1) := by decide +kernel
theorem dX2_isHexadecimal_10 : decode cX2_isHexadecimal 10 = .ok (.getfield 37, 3) := by decide +kernel
theorem dX2_isHexadecimal_13 : decode cX2_isHexadecimal 13 = .ok (.bipush 88, 2) := by decide +kernel
theorem dX2_isHexadecimal_15 : decode cX2_isHexadecimal 15 = .ok (.if_icmp .ne 7, 3) := by decide +kernel
theorem dX2_isHexadecimal_18 : decode cX2_isHexadecimal 18 = .ok (.iconst 1, 1) := by decide +kernel
theorem dX2_isHexadecimal_19 : decode cX2_isHexadecimal 19 = .ok (.goto 4, 3) := by decide +kernel
theorem dX2_isHexadecimal_22 : decode cX2_isHexadecimal 22 = .ok (.iconst 0, 1) := by decide +kernel
theorem dX2_isHexadecimal_23 : decode cX2_isHexadecimal 23 = .ok (.ireturn, 1) := by decide +kernel
theorem dX2_base_0 : decode cX2_base 0 = .ok (.aload_n 0, 1) := by decide +kernel
theorem dX2_base_1 : decode cX2_base 1 = .ok (.getfield 37, 3) := by decide +kernel
theorem dX2_base_4 : decode cX2_base 4 = .ok (.bipush 111, 2) := by decide +kernel
theorem dX2_base_6 : decode cX2_base 6 = .ok (.if_icmp .ne 6, 3) := by decide +kernel
theorem dX2_base_9 : decode cX2_base 9 = .ok (.bipush 8, 2) := by decide +kernel
theorem dX2_base_11 : decode cX2_base 11 = .ok (.ireturn, 1) := by decide +kernel
theorem dX2_base_12 : decode cX2_base 12 = .ok (.aload_n 0, 1) := by decide +kernel
theorem dX2_base_13 : decode cX2_base 13 = .ok (.invokevirtual 44, 3) := by decide +kernel
theorem dX2_base_16 : decode cX2_base 16 = .ok (.ifCond .eq 8, 3) := by decide +kernel
theorem dX2_base_19 : decode cX2_base 19 = .ok (.bipush 16, 2) := by decide +kernel
theorem dX2_base_21 : decode cX2_base 21 = .ok (.goto 5, 3) := by decide +kernel
theorem dX2_base_24 : decode cX2_base 24 = .ok (.bipush 10, 2) := by decide +kernel
theorem dX2_base_26 : decode cX2_base 26 = .ok (.ireturn, 1) := by decide +kernel
theorem dX2_fillsWithZeros_0 : decode cX2_fillsWithZeros 0 = .ok (.aload_n 0, 1) := by decide +kernel
theorem dX2_fillsWithZeros_1 : decode cX2_fillsWithZeros 1 = .ok (.getfield 47, 3) := by decide +kernel
theorem dX2_fillsWithZeros_4 : decode cX2_fillsWithZeros 4 = .ok (.ifCond .eq 22, 3) := by decide +kernel
theorem dX2_fillsWithZeros_7 : decode cX2_fillsWithZeros 7 = .ok (.aload_n 0, 1) := by decide +kernel
theorem dX2_fillsWithZeros_8 : decode cX2_fillsWithZeros 8 = .ok (.getfield 51, 3) := by decide +kernel
theorem dX2_fillsWithZeros_11 : decode cX2_fillsWithZeros 11 = .ok (.ifCond .ne 15, 3) := by decide +kernel
theorem dX2_fillsWithZeros_14 : decode cX2_fillsWithZeros 14 = .ok (.aload_n 0, 1) := by decide +kernel
theorem dX2_fillsWithZeros_15 : decode cX2_fillsWithZeros 15 = .ok (.getfield 54, 3) := by decide +kernel
theorem dX2_fillsWithZeros_18 : decode cX2_fillsWithZeros 18 = .ok (.iconst (-1), 1) := by decide +kernel
theorem dX2_fillsWithZeros_19 : decode cX2_fillsWithZeros 19 = .ok (.if_icmp .ne 7, 3) := by decide +kernel
theorem dX2_fillsWithZeros_22 : decode cX2_fillsWithZeros 22 = .ok (.iconst 1, 1) := by decide +kernel
theorem dX2_fillsWithZeros_23 : decode cX2_fillsWithZeros 23 = .ok (.goto 4, 3) := by decide +kernel
theorem dX2_fillsWithZeros_26 : decode cX2_fillsWithZeros 26 = .ok (.iconst 0, 1) := by decide +kernel
theorem dX2_fillsWithZeros_27 : decode cX2_fillsWithZeros 27 = .ok (.ireturn, 1) := by decide +kernel
theorem dX2_takeWidth_0 : decode cX2_takeWidth 0 = .ok (.lload_n 1, 1) := by decide +kernel
theorem dX2_takeWidth_1 : decode cX2_takeWidth 1 = .ok (.invokestatic 57, 3) := by decide +kernel
theorem dX2_takeWidth_4 : decode cX2_takeWidth 4 = .ok (.istore_n 3, 1) := by decide +kernel
theorem dX2_takeWidth_5 : decode cX2_takeWidth 5 = .ok (.iload_n 3, 1) := by decide +kernel
theorem dX2_takeWidth_6 : decode cX2_takeWidth 6 = .ok (.ifCond .ge 11, 3) := by decide +kernel
theorem dX2_takeWidth_9 : decode cX2_takeWidth 9 = .ok (.aload_n 0, 1) := by decide +kernel
theorem dX2_takeWidth_10 : decode cX2_takeWidth 10 = .ok (.iconst 1, 1) := by decide +kernel
theorem dX2_takeWidth_11 : decode cX2_takeWidth 11 = .ok (.putfield 51, 3) := by decide +kernel
theorem dX2_takeWidth_14 : decode cX2_takeWidth 14 = .ok (.iload_n 3, 1) := by decide +kernel
theorem dX2_takeWidth_15 : decode cX2_takeWidth 15 = .ok (.ineg, 1) := by decide +kernel
theorem dX2_takeWidth_16 : decode cX2_takeWidth 16 = .ok (.istore_n 3, 1) := by decide +kernel
theorem dX2_takeWidth_17 : decode cX2_takeWidth 17 = .ok (.aload_n 0, 1) := by decide +kernel
theorem dX2_takeWidth_18 : decode cX2_takeWidth 18 = .ok (.iload_n 3, 1) := by decide +kernel
theorem dX2_takeWidth_19 : decode cX2_takeWidth 19 = .ok (.putfield 61, 3) := by decide +kernel
theorem dX2_takeWidth_22 : decode cX2_takeWidth 22 = .ok (.return_, 1) := by decide +kernel
theorem dX2_takePrecision_0 : decode cX2_takePrecision 0 = .ok (.aload_n 0, 1) := by decide +kernel
theorem dX2_takePrecision_1 : decode cX2_takePrecision 1 = .ok (.lload_n 1, 1) := by decide +kernel
theorem dX2_takePrecision_2 : decode cX2_takePrecision 2 = .ok (.lconst 0, 1) := by decide +kernel
theorem dX2_takePrecision_3 : decode cX2_takePrecision 3 = .ok (.lcmp, 1) := by decide +kernel
theorem dX2_takePrecision_4 : decode cX2_takePrecision 4 = .ok (.ifCond .ge 7, 3) := by decide +kernel
theorem dX2_takePrecision_7 : decode cX2_takePrecision 7 = .ok (.iconst (-1), 1) := by decide +kernel
theorem dX2_takePrecision_8 : decode cX2_takePrecision 8 = .ok (.goto 7, 3) := by decide +kernel
theorem dX2_takePrecision_11 : decode cX2_takePrecision 11 = .ok (.lload_n 1, 1) := by decide +kernel
theorem dX2_takePrecision_12 : decode cX2_takePrecision 12 = .ok (.invokestatic 57, 3) := by decide +kernel
theorem dX2_takePrecision_15 : decode cX2_takePrecision 15 = .ok (.putfield 54, 3) := by decide +kernel
theorem dX2_takePrecision_18 : decode cX2_takePrecision 18 = .ok (.return_, 1) := by decide +kernel
theorem dX2_cutToStar_0 : decode cX2_cutToStar 0 = .ok (.ldc2_w 64, 3) := by decide +kernel
theorem dX2_cutToStar_3 : decode cX2_cutToStar 3 = .ok (.ldc2_w 66, 3) := by decide +kernel
theorem dX2_cutToStar_6 : decode cX2_cutToStar 6 = .ok (.lload_n 0, 1) := by decide +kernel
theorem dX2_cutToStar_7 : decode cX2_cutToStar 7 = .ok (.invokestatic 68, 3) := by decide +kernel
theorem dX2_cutToStar_10 : decode cX2_cutToStar 10 = .ok (.invokestatic 74, 3) := by decide +kernel
theorem dX2_cutToStar_13 : decode cX2_cutToStar 13 = .ok (.l2i, 1) := by decide +kernel
theorem dX2_cutToStar_14 : decode cX2_cutToStar 14 = .ok (.ireturn, 1) := by decide +kernel
theorem dX2_forget_0 : decode cX2_forget 0 = .ok (.aload_n 0, 1) := by decide +kernel
theorem dX2_forget_1 : decode cX2_forget 1 = .ok (.iconst 0, 1) := by decide +kernel
theorem dX2_forget_2 : decode cX2_forget 2 = .ok (.putfield 51, 3) := by decide +kernel
theorem dX2_forget_5 : decode cX2_forget 5 = .ok (.aload_n 0, 1) := by decide +kernel
theorem dX2_forget_6 : decode cX2_forget 6 = .ok (.iconst 0, 1) := by decide +kernel
theorem dX2_forget_7 : decode cX2_forget 7 = .ok (.putfield 77, 3) := by decide +kernel
theorem dX2_forget_10 : decode cX2_forget 10 = .ok (.aload_n 0, 1) := by decide +kernel
theorem dX2_forget_11 : decode cX2_forget 11 = .ok (.iconst 0, 1) := by decide +kernel
theorem dX2_forget_12 : decode cX2_forget 12 = .ok (.putfield 80, 3) := by decide +kernel
theorem dX2_forget_15 : decode cX2_forget 15 = .ok (.aload_n 0, 1) := by decide +kernel
theorem dX2_forget_16 : decode cX2_forget 16 = .ok (.iconst 0, 1) := by decide +kernel
theorem dX2_forget_17 : decode cX2_forget 17 = .ok (.putfield 83, 3) := by decide +kernel
theorem dX2_forget_20 : decode cX2_forget 20 = .ok (.aload_n 0, 1) := by decide +kernel
theorem dX2_forget_21 : decode cX2_forget 21 = .ok (.iconst 0, 1) := by decide +kernel
theorem dX2_forget_22 : decode cX2_forget 22 = .ok (.putfield 47, 3) := by decide +kernel
theorem dX2_forget_25 : decode cX2_forget 25 = .ok (.aload_n 0, 1) := by decide +kernel
theorem dX2_forget_26 : decode cX2_forget 26 = .ok (.iconst 0, 1) := by decide +kernel
theorem dX2_forget_27 : decode cX2_forget 27 = .ok (.putfield 86, 3) := by decide +kernel
theorem dX2_forget_30 : decode cX2_forget 30 = .ok (.aload_n 0, 1) := by decide +kernel
theorem dX2_forget_31 : decode cX2_forget 31 = .ok (.iconst 0, 1) := by decide +kernel
theorem dX2_forget_32 : decode cX2_forget 32 = .ok (.putfield 89, 3) := by decide +kernel
theorem dX2_forget_35 : decode cX2_forget 35 = .ok (.aload_n 0, 1) := by decide +kernel
theorem dX2_forget_36 : decode cX2_forget 36 = .ok (.iconst 0, 1) := by decide +kernel
theorem dX2_forget_37 : decode cX2_forget 37 = .ok (.putfield 61, 3) := by decide +kernel
theorem dX2_forget_40 : decode cX2_forget 40 = .ok (.aload_n 0, 1) := by decide +kernel
theorem dX2_forget_41 : decode cX2_forget 41 = .ok (.iconst (-1), 1) := by decide +kernel
theorem dX2_forget_42 : decode cX2_forget 42 = .ok (.putfield 54, 3) := by decide +kernel
theorem dX2_forget_45 : decode cX2_forget 45 = .ok (.aload_n 0, 1) := by decide +kernel
theorem dX2_forget_46 : decode cX2_forget 46 = .ok (.bipush 32, 2) := by decide +kernel
theorem dX2_forget_48 : decode cX2_forget 48 = .ok (.putfield 92, 3) := by decide +kernel
theorem dX2_forget_51 : decode cX2_forget 51 = .ok (.aload_n 0, 1) := by decide +kernel
theorem dX2_forget_52 : decode cX2_forget 52 = .ok (.iconst (-1), 1) := by decide +kernel
theorem dX2_forget_53 : decode cX2_forget 53 = .ok (.putfield 37, 3) := by decide +kernel
theorem dX2_forget_56 : decode cX2_forget 56 = .ok (.aload_n 0, 1) := by decide +kernel
theorem dX2_forget_57 : decode cX2_forget 57 = .ok (.iconst 0, 1) := by decide +kernel
theorem dX2_forget_58 : decode cX2_forget 58 = .ok (.putfield 14, 3) := by decide +kernel
theorem dX2_forget_61 : decode cX2_forget 61 = .ok (.return_, 1) := by decide +kernel
theorem dX2_readFlags_0 : decode cX2_readFlags 0 = .ok (.aload_n 0, 1) := by decide +kernel
theorem dX2_readFlags_1 : decode cX2_readFlags 1 = .ok (.getfield 14, 3) := by decide +kernel
theorem dX2_readFlags_4 : decode cX2_readFlags 4 = .ok (.aload_n 1, 1) := by decide +kernel
theorem dX2_readFlags_5 : decode cX2_readFlags 5 = .ok (.invokevirtual 95, 3) := by decide +kernel
theorem dX2_readFlags_8 : decode cX2_readFlags 8 = .ok (.if_icmp .ge 31, 3) := by decide +kernel
theorem dX2_readFlags_11 : decode cX2_readFlags 11 = .ok (.aload_n 0, 1) := by decide +kernel
theorem dX2_readFlags_12 : decode cX2_readFlags 12 = .ok (.aload_n 1, 1) := by decide +kernel
theorem dX2_readFlags_13 : decode cX2_readFlags 13 = .ok (.aload_n 0, 1) := by decide +kernel
theorem dX2_readFlags_14 : decode cX2_readFlags 14 = .ok (.getfield 14, 3) := by decide +kernel
theorem dX2_readFlags_17 : decode cX2_readFlags 17 = .ok (.invokevirtual 31, 3) := by decide +kernel
theorem dX2_readFlags_20 : decode cX2_readFlags 20 = .ok (.invokevirtual 99, 3) := by decide +kernel
theorem dX2_readFlags_23 : decode cX2_readFlags 23 = .ok (.ifCond .eq 16, 3) := by decide +kernel
theorem dX2_readFlags_26 : decode cX2_readFlags 26 = .ok (.aload_n 0, 1) := by decide +kernel
theorem dX2_readFlags_27 : decode cX2_readFlags 27 = .ok (.dup, 1) := by decide +kernel
theorem dX2_readFlags_28 : decode cX2_readFlags 28 = .ok (.getfield 14, 3) := by decide +kernel
theorem dX2_readFlags_31 : decode cX2_readFlags 31 = .ok (.iconst 1, 1) := by decide +kernel
theorem dX2_readFlags_32 : decode cX2_readFlags 32 = .ok (.iadd, 1) := by decide +kernel
theorem dX2_readFlags_33 : decode cX2_readFlags 33 = .ok (.putfield 14, 3) := by decide +kernel
theorem dX2_readFlags_36 : decode cX2_readFlags 36 = .ok (.goto (-36), 3) := by decide +kernel
theorem dX2_readFlags_39 : decode cX2_readFlags 39 = .ok (.return_, 1) := by decide +kernel
theorem dX2_noteFlag_0 : decode cX2_noteFlag 0 = .ok (.iload_n 1, 1) := by decide +kernel
theorem dX2_noteFlag_1 : decode cX2_noteFlag 1 = .ok (.lookupswitch 86 #[(32, 65), (35, 72), (43, 58), (45, 51), (48, 79)], 51) := by decide +kernel
theorem dX2_noteFlag_52 : decode cX2_noteFlag 52 = .ok (.aload_n 0, 1) := by decide +kernel
theorem dX2_noteFlag_53 : decode cX2_noteFlag 53 = .ok (.iconst 1, 1) := by decide +kernel
theorem dX2_noteFlag_54 : decode cX2_noteFlag 54 = .ok (.putfield 51, 3) := by decide +kernel
theorem dX2_noteFlag_57 : decode cX2_noteFlag 57 = .ok (.iconst 1, 1) := by decide +kernel
theorem dX2_noteFlag_58 : decode cX2_noteFlag 58 = .ok (.ireturn, 1) := by decide +kernel
theorem dX2_noteFlag_59 : decode cX2_noteFlag 59 = .ok (.aload_n 0, 1) := by decide +kernel
theorem dX2_noteFlag_60 : decode cX2_noteFlag 60 = .ok (.iconst 1, 1) := by decide +kernel
theorem dX2_noteFlag_61 : decode cX2_noteFlag 61 = .ok (.putfield 77, 3) := by decide +kernel
theorem dX2_noteFlag_64 : decode cX2_noteFlag 64 = .ok (.iconst 1, 1) := by decide +kernel
theorem dX2_noteFlag_65 : decode cX2_noteFlag 65 = .ok (.ireturn, 1) := by decide +kernel
theorem dX2_noteFlag_66 : decode cX2_noteFlag 66 = .ok (.aload_n 0, 1) := by decide +kernel
theorem dX2_noteFlag_67 : decode cX2_noteFlag 67 = .ok (.iconst 1, 1) := by decide +kernel
theorem dX2_noteFlag_68 : decode cX2_noteFlag 68 = .ok (.putfield 80, 3) := by decide +kernel
theorem dX2_noteFlag_71 : decode cX2_noteFlag 71 = .ok (.iconst 1, 1) := by decide +kernel
theorem dX2_noteFlag_72 : decode cX2_noteFlag 72 = .ok (.ireturn, 1) := by decide +kernel
theorem dX2_noteFlag_73 : decode cX2_noteFlag 73 = .ok (.aload_n 0, 1) := by decide +kernel
theorem dX2_noteFlag_74 : decode cX2_noteFlag 74 = .ok (.iconst 1, 1) := by decide +kernel
theorem dX2_noteFlag_75 : decode cX2_noteFlag 75 = .ok (.putfield 83, 3) := by decide +kernel
theorem dX2_noteFlag_78 : decode cX2_noteFlag 78 = .ok (.iconst 1, 1) := by decide +kernel
theorem dX2_noteFlag_79 : decode cX2_noteFlag 79 = .ok (.ireturn, 1) := by decide +kernel
theorem dX2_noteFlag_80 : decode cX2_noteFlag 80 = .ok (.aload_n 0, 1) := by decide +kernel
theorem dX2_noteFlag_81 : decode cX2_noteFlag 81 = .ok (.iconst 1, 1) := by decide +kernel
theorem dX2_noteFlag_82 : decode cX2_noteFlag 82 = .ok (.putfield 47, 3) := by decide +kernel
theorem dX2_noteFlag_85 : decode cX2_noteFlag 85 = .ok (.iconst 1, 1) := by decide +kernel
theorem dX2_noteFlag_86 : decode cX2_noteFlag 86 = .ok (.ireturn, 1) := by decide +kernel
theorem dX2_noteFlag_87 : decode cX2_noteFlag 87 = .ok (.iconst 0, 1) := by decide +kernel
theorem dX2_noteFlag_88 : decode cX2_noteFlag 88 = .ok (.ireturn, 1) := by decide +kernel
theorem dX2_readWidth_0 : decode cX2_readWidth 0 = .ok (.aload_n 1, 1) := by decide +kernel
theorem dX2_readWidth_1 : decode cX2_readWidth 1 = .ok (.aload_n 0, 1) := by decide +kernel
theorem dX2_readWidth_2 : decode cX2_readWidth 2 = .ok (.getfield 14, 3) := by decide +kernel
theorem dX2_readWidth_5 : decode cX2_readWidth 5 = .ok (.invokevirtual 31, 3) := by decide +kernel
theorem dX2_readWidth_8 : decode cX2_readWidth 8 = .ok (.bipush 42, 2) := by decide +kernel
theorem dX2_readWidth_10 : decode cX2_readWidth 10 = .ok (.if_icmp .ne 21, 3) := by decide +kernel
theorem dX2_readWidth_13 : decode cX2_readWidth 13 = .ok (.aload_n 0, 1) := by decide +kernel
theorem dX2_readWidth_14 : decode cX2_readWidth 14 = .ok (.iconst 1, 1) := by decide +kernel
theorem dX2_readWidth_15 : decode cX2_readWidth 15 = .ok (.putfield 86, 3) := by decide +kernel
theorem dX2_readWidth_18 : decode cX2_readWidth 18 = .ok (.aload_n 0, 1) := by decide +kernel
theorem dX2_readWidth_19 : decode cX2_readWidth 19 = .ok (.dup, 1) := by decide +kernel
theorem dX2_readWidth_20 : decode cX2_readWidth 20 = .ok (.getfield 14, 3) := by decide +kernel
theorem dX2_readWidth_23 : decode cX2_readWidth 23 = .ok (.iconst 1, 1) := by decide +kernel
theorem dX2_readWidth_24 : decode cX2_readWidth 24 = .ok (.iadd, 1) := by decide +kernel
theorem dX2_readWidth_25 : decode cX2_readWidth 25 = .ok (.putfield 14, 3) := by decide +kernel
theorem dX2_readWidth_28 : decode cX2_readWidth 28 = .ok (.goto 12, 3) := by decide +kernel
theorem dX2_readWidth_31 : decode cX2_readWidth 31 = .ok (.aload_n 0, 1) := by decide +kernel
theorem dX2_readWidth_32 : decode cX2_readWidth 32 = .ok (.aload_n 0, 1) := by decide +kernel
theorem dX2_readWidth_33 : decode cX2_readWidth 33 = .ok (.aload_n 1, 1) := by decide +kernel
theorem dX2_readWidth_34 : decode cX2_readWidth 34 = .ok (.invokevirtual 103, 3) := by decide +kernel
theorem dX2_readWidth_37 : decode cX2_readWidth 37 = .ok (.putfield 61, 3) := by decide +kernel
theorem dX2_readWidth_40 : decode cX2_readWidth 40 = .ok (.return_, 1) := by decide +kernel
theorem dX2_readPrecision_0 : decode cX2_readPrecision 0 = .ok (.aload_n 1, 1) := by decide +kernel
theorem dX2_readPrecision_1 : decode cX2_readPrecision 1 = .ok (.aload_n 0, 1) := by decide +kernel
theorem dX2_readPrecision_2 : decode cX2_readPrecision 2 = .ok (.getfield 14, 3) := by decide +kernel
theorem dX2_readPrecision_5 : decode cX2_readPrecision 5 = .ok (.invokevirtual 31, 3) := by decide +kernel
theorem dX2_readPrecision_8 : decode cX2_readPrecision 8 = .ok (.bipush 46, 2) := by decide +kernel
theorem dX2_readPrecision_10 : decode cX2_readPrecision 10 = .ok (.if_icmp .eq 4, 3) := by decide +kernel
theorem dX2_readPrecision_13 : decode cX2_readPrecision 13 = .ok (.return_, 1) := by decide +kernel
theorem dX2_readPrecision_14 : decode cX2_readPrecision 14 = .ok (.aload_n 0, 1) := by decide +kernel
theorem dX2_readPrecision_15 : decode cX2_readPrecision 15 = .ok (.dup, 1) := by decide +kernel
theorem dX2_readPrecision_16 : decode cX2_readPrecision 16 = .ok (.getfield 14, 3) := by decide +kernel
theorem dX2_readPrecision_19 : decode cX2_readPrecision 19 = .ok (.iconst 1, 1) := by decide +kernel
theorem dX2_readPrecision_20 : decode cX2_readPrecision 20 = .ok (.iadd, 1) := by decide +kernel
theorem dX2_readPrecision_21 : decode cX2_readPrecision 21 = .ok (.putfield 14, 3) := by decide +kernel
theorem dX2_readPrecision_24 : decode cX2_readPrecision 24 = .ok (.aload_n 1, 1) := by decide +kernel
theorem dX2_readPrecision_25 : decode cX2_readPrecision 25 = .ok (.aload_n 0, 1) := by decide +kernel
theorem dX2_readPrecision_26 : decode cX2_readPrecision 26 = .ok (.getfield 14, 3) := by decide +kernel
theorem dX2_readPrecision_29 : decode cX2_readPrecision 29 = .ok (.invokevirtual 31, 3) := by decide +kernel
theorem dX2_readPrecision_32 : decode cX2_readPrecision 32 = .ok (.bipush 42, 2) := by decide +kernel
theorem dX2_readPrecision_34 : decode cX2_readPrecision 34 = .ok (.if_icmp .ne 21, 3) := by decide +kernel
theorem dX2_readPrecision_37 : decode cX2_readPrecision 37 = .ok (.aload_n 0, 1) := by decide +kernel
theorem dX2_readPrecision_38 : decode cX2_readPrecision 38 = .ok (.iconst 1, 1) := by decide +kernel
theorem dX2_readPrecision_39 : decode cX2_readPrecision 39 = .ok (.putfield 89, 3) := by decide +kernel
theorem dX2_readPrecision_42 : decode cX2_readPrecision 42 = .ok (.aload_n 0, 1) := by decide +kernel
theorem dX2_readPrecision_43 : decode cX2_readPrecision 43 = .ok (.dup, 1) := by decide +kernel
theorem dX2_readPrecision_44 : decode cX2_readPrecision 44 = .ok (.getfield 14, 3) := by decide +kernel
theorem dX2_readPrecision_47 : decode cX2_readPrecision 47 = .ok (.iconst 1, 1) := by decide +kernel
theorem dX2_readPrecision_48 : decode cX2_readPrecision 48 = .ok (.iadd, 1) := by decide +kernel
theorem dX2_readPrecision_49 : decode cX2_readPrecision 49 = .ok (.putfield 14, 3) := by decide +kernel
theorem dX2_readPrecision_52 : decode cX2_readPrecision 52 = .ok (.goto 12, 3) := by decide +kernel
theorem dX2_readPrecision_55 : decode cX2_readPrecision 55 = .ok (.aload_n 0, 1) := by decide +kernel
theorem dX2_readPrecision_56 : decode cX2_readPrecision 56 = .ok (.aload_n 0, 1) := by decide +kernel
theorem dX2_readPrecision_57 : decode cX2_readPrecision 57 = .ok (.aload_n 1, 1) := by decide +kernel
theorem dX2_readPrecision_58 : decode cX2_readPrecision 58 = .ok (.invokevirtual 103, 3) := by decide +kernel
theorem dX2_readPrecision_61 : decode cX2_readPrecision 61 = .ok (.putfield 54, 3) := by decide +kernel
theorem dX2_readPrecision_64 : decode cX2_readPrecision 64 = .ok (.return_, 1) := by decide +kernel
theorem dX2_readTwoDigits_0 : decode cX2_readTwoDigits 0 = .ok (.iconst 0, 1) := by decide +kernel
theorem dX2_readTwoDigits_1 : decode cX2_readTwoDigits 1 = .ok (.istore_n 2, 1) := by decide +kernel
theorem dX2_readTwoDigits_2 : decode cX2_readTwoDigits 2 = .ok (.iconst 0, 1) := by decide +kernel
theorem dX2_readTwoDigits_3 : decode cX2_readTwoDigits 3 = .ok (.istore_n 3, 1) := by decide +kernel
theorem dX2_readTwoDigits_4 : decode cX2_readTwoDigits 4 = .ok (.iload_n 3, 1) := by decide +kernel
theorem dX2_readTwoDigits_5 : decode cX2_readTwoDigits 5 = .ok (.iconst 2, 1) := by decide +kernel
theorem dX2_readTwoDigits_6 : decode cX2_readTwoDigits 6 = .ok (.if_icmp .ge 55, 3) := by decide +kernel
theorem dX2_readTwoDigits_9 : decode cX2_readTwoDigits 9 = .ok (.aload_n 1, 1) := by decide +kernel
theorem dX2_readTwoDigits_10 : decode cX2_readTwoDigits 10 = .ok (.aload_n 0, 1) := by decide +kernel
theorem dX2_readTwoDigits_11 : decode cX2_readTwoDigits 11 = .ok (.getfield 14, 3) := by decide +kernel
theorem dX2_readTwoDigits_14 : decode cX2_readTwoDigits 14 = .ok (.invokevirtual 31, 3) := by decide +kernel
theorem dX2_readTwoDigits_17 : decode cX2_readTwoDigits 17 = .ok (.bipush 10, 2) := by decide +kernel
theorem dX2_readTwoDigits_19 : decode cX2_readTwoDigits 19 = .ok (.invokestatic 107, 3) := by decide +kernel
theorem dX2_readTwoDigits_22 : decode cX2_readTwoDigits 22 = .ok (.iconst (-1), 1) := by decide +kernel
theorem dX2_readTwoDigits_23 : decode cX2_readTwoDigits 23 = .ok (.if_icmp .eq 38, 3) := by decide +kernel
theorem dX2_readTwoDigits_26 : decode cX2_readTwoDigits 26 = .ok (.iload_n 2, 1) := by decide +kernel
theorem dX2_readTwoDigits_27 : decode cX2_readTwoDigits 27 = .ok (.bipush 10, 2) := by decide +kernel
theorem dX2_readTwoDigits_29 : decode cX2_readTwoDigits 29 = .ok (.imul, 1) := by decide +kernel
theorem dX2_readTwoDigits_30 : decode cX2_readTwoDigits 30 = .ok (.aload_n 1, 1) := by decide +kernel
theorem dX2_readTwoDigits_31 : decode cX2_readTwoDigits 31 = .ok (.aload_n 0, 1) := by decide +kernel
theorem dX2_readTwoDigits_32 : decode cX2_readTwoDigits 32 = .ok (.getfield 14, 3) := by decide +kernel
theorem dX2_readTwoDigits_35 : decode cX2_readTwoDigits 35 = .ok (.invokevirtual 31, 3) := by decide +kernel
theorem dX2_readTwoDigits_38 : decode cX2_readTwoDigits 38 = .ok (.bipush 10, 2) := by decide +kernel
theorem dX2_readTwoDigits_40 : decode cX2_readTwoDigits 40 = .ok (.invokestatic 107, 3) := by decide +kernel
theorem dX2_readTwoDigits_43 : decode cX2_readTwoDigits 43 = .ok (.iadd, 1) := by decide +kernel
theorem dX2_readTwoDigits_44 : decode cX2_readTwoDigits 44 = .ok (.istore_n 2, 1) := by decide +kernel
theorem dX2_readTwoDigits_45 : decode cX2_readTwoDigits 45 = .ok (.aload_n 0, 1) := by decide +kernel
theorem dX2_readTwoDigits_46 : decode cX2_readTwoDigits 46 = .ok (.dup, 1) := by decide +kernel
theorem dX2_readTwoDigits_47 : decode cX2_readTwoDigits 47 = .ok (.getfield 14, 3) := by decide +kernel
theorem dX2_readTwoDigits_50 : decode cX2_readTwoDigits 50 = .ok (.iconst 1, 1) := by decide +kernel
theorem dX2_readTwoDigits_51 : decode cX2_readTwoDigits 51 = .ok (.iadd, 1) := by decide +kernel
theorem dX2_readTwoDigits_52 : decode cX2_readTwoDigits 52 = .ok (.putfield 14, 3) := by decide +kernel
theorem dX2_readTwoDigits_55 : decode cX2_readTwoDigits 55 = .ok (.iinc 3 1, 3) := by decide +kernel
theorem dX2_readTwoDigits_58 : decode cX2_readTwoDigits 58 = .ok (.goto (-54), 3) := by decide +kernel
theorem dX2_readTwoDigits_61 : decode cX2_readTwoDigits 61 = .ok (.iload_n 2, 1) := by decide +kernel
theorem dX2_readTwoDigits_62 : decode cX2_readTwoDigits 62 = .ok (.ireturn, 1) := by decide +kernel
theorem dX2_readLength_0 : decode cX2_readLength 0 = .ok (.aload_n 1, 1) := by decide +kernel
theorem dX2_readLength_1 : decode cX2_readLength 1 = .ok (.aload_n 0, 1) := by decide +kernel
theorem dX2_readLength_2 : decode cX2_readLength 2 = .ok (.getfield 14, 3) := by decide +kernel
theorem dX2_readLength_5 : decode cX2_readLength 5 = .ok (.invokevirtual 31, 3) := by decide +kernel
theorem dX2_readLength_8 : decode cX2_readLength 8 = .ok (.istore_n 2, 1) := by decide +kernel
theorem dX2_readLength_9 : decode cX2_readLength 9 = .ok (.iload_n 2, 1) := by decide +kernel
theorem dX2_readLength_10 : decode cX2_readLength 10 = .ok (.bipush 104, 2) := by decide +kernel
theorem dX2_readLength_12 : decode cX2_readLength 12 = .ok (.if_icmp .eq 16, 3) := by decide +kernel
theorem dX2_readLength_15 : decode cX2_readLength 15 = .ok (.iload_n 2, 1) := by decide +kernel
theorem dX2_readLength_16 : decode cX2_readLength 16 = .ok (.bipush 108, 2) := by decide +kernel
theorem dX2_readLength_18 : decode cX2_readLength 18 = .ok (.if_icmp .eq 10, 3) := by decide +kernel
theorem dX2_readLength_21 : decode cX2_readLength 21 = .ok (.iload_n 2, 1) := by decide +kernel
theorem dX2_readLength_22 : decode cX2_readLength 22 = .ok (.bipush 106, 2) := by decide +kernel
theorem dX2_readLength_24 : decode cX2_readLength 24 = .ok (.if_icmp .eq 4, 3) := by decide +kernel
theorem dX2_readLength_27 : decode cX2_readLength 27 = .ok (.return_, 1) := by decide +kernel
theorem dX2_readLength_28 : decode cX2_readLength 28 = .ok (.aload_n 0, 1) := by decide +kernel
theorem dX2_readLength_29 : decode cX2_readLength 29 = .ok (.dup, 1) := by decide +kernel
theorem dX2_readLength_30 : decode cX2_readLength 30 = .ok (.getfield 14, 3) := by decide +kernel
theorem dX2_readLength_33 : decode cX2_readLength 33 = .ok (.iconst 1, 1) := by decide +kernel
theorem dX2_readLength_34 : decode cX2_readLength 34 = .ok (.iadd, 1) := by decide +kernel
theorem dX2_readLength_35 : decode cX2_readLength 35 = .ok (.putfield 14, 3) := by decide +kernel
theorem dX2_readLength_38 : decode cX2_readLength 38 = .ok (.aload_n 0, 1) := by decide +kernel
theorem dX2_readLength_39 : decode cX2_readLength 39 = .ok (.iload_n 2, 1) := by decide +kernel
theorem dX2_readLength_40 : decode cX2_readLength 40 = .ok (.bipush 104, 2) := by decide +kernel
theorem dX2_readLength_42 : decode cX2_readLength 42 = .ok (.if_icmp .ne 8, 3) := by decide +kernel
theorem dX2_readLength_45 : decode cX2_readLength 45 = .ok (.bipush 16, 2) := by decide +kernel
theorem dX2_readLength_47 : decode cX2_readLength 47 = .ok (.goto 5, 3) := by decide +kernel
theorem dX2_readLength_50 : decode cX2_readLength 50 = .ok (.bipush 64, 2) := by decide +kernel
theorem dX2_readLength_52 : decode cX2_readLength 52 = .ok (.putfield 92, 3) := by decide +kernel
theorem dX2_readLength_55 : decode cX2_readLength 55 = .ok (.iload_n 2, 1) := by decide +kernel
theorem dX2_readLength_56 : decode cX2_readLength 56 = .ok (.bipush 106, 2) := by decide +kernel
theorem dX2_readLength_58 : decode cX2_readLength 58 = .ok (.if_icmp .eq 42, 3) := by decide +kernel
theorem dX2_readLength_61 : decode cX2_readLength 61 = .ok (.aload_n 1, 1) := by decide +kernel
theorem dX2_readLength_62 : decode cX2_readLength 62 = .ok (.aload_n 0, 1) := by decide +kernel
theorem dX2_readLength_63 : decode cX2_readLength 63 = .ok (.getfield 14, 3) := by decide +kernel
theorem dX2_readLength_66 : decode cX2_readLength 66 = .ok (.invokevirtual 31, 3) := by decide +kernel
theorem dX2_readLength_69 : decode cX2_readLength 69 = .ok (.iload_n 2, 1) := by decide +kernel
theorem dX2_readLength_70 : decode cX2_readLength 70 = .ok (.if_icmp .ne 30, 3) := by decide +kernel
theorem dX2_readLength_73 : decode cX2_readLength 73 = .ok (.aload_n 0, 1) := by decide +kernel
theorem dX2_readLength_74 : decode cX2_readLength 74 = .ok (.dup, 1) := by decide +kernel
theorem dX2_readLength_75 : decode cX2_readLength 75 = .ok (.getfield 14, 3) := by decide +kernel
theorem dX2_readLength_78 : decode cX2_readLength 78 = .ok (.iconst 1, 1) := by decide +kernel
theorem dX2_readLength_79 : decode cX2_readLength 79 = .ok (.iadd, 1) := by decide +kernel
theorem dX2_readLength_80 : decode cX2_readLength 80 = .ok (.putfield 14, 3) := by decide +kernel
theorem dX2_readLength_83 : decode cX2_readLength 83 = .ok (.aload_n 0, 1) := by decide +kernel
theorem dX2_readLength_84 : decode cX2_readLength 84 = .ok (.iload_n 2, 1) := by decide +kernel
theorem dX2_readLength_85 : decode cX2_readLength 85 = .ok (.bipush 104, 2) := by decide +kernel
theorem dX2_readLength_87 : decode cX2_readLength 87 = .ok (.if_icmp .ne 8, 3) := by decide +kernel
theorem dX2_readLength_90 : decode cX2_readLength 90 = .ok (.bipush 8, 2) := by decide +kernel
theorem dX2_readLength_92 : decode cX2_readLength 92 = .ok (.goto 5, 3) := by decide +kernel
theorem dX2_readLength_95 : decode cX2_readLength 95 = .ok (.bipush 64, 2) := by decide +kernel
theorem dX2_readLength_97 : decode cX2_readLength 97 = .ok (.putfield 92, 3) := by decide +kernel
theorem dX2_readLength_100 : decode cX2_readLength 100 = .ok (.return_, 1) := by decide +kernel
theorem dX2_isLetter_0 : decode cX2_isLetter 0 = .ok (.aload_n 0, 1) := by decide +kernel
theorem dX2_isLetter_1 : decode cX2_isLetter 1 = .ok (.getfield 37, 3) := by decide +kernel
theorem dX2_isLetter_4 : decode cX2_isLetter 4 = .ok (.tableswitch 150 88 120 #[148, 150, 150, 150, 150, 150, 150, 150, 150, 150, 148, 148, 148, 150, 150, 150, 150, 148, 150, 150, 150, 150, 150, 148, 150, 150, 150, 148, 150, 148, 150, 150, 148], 148) := by decide +kernel
theorem dX2_isLetter_152 : decode cX2_isLetter 152 = .ok (.iconst 1, 1) := by decide +kernel
theorem dX2_isLetter_153 : decode cX2_isLetter 153 = .ok (.ireturn, 1) := by decide +kernel
theorem dX2_isLetter_154 : decode cX2_isLetter 154 = .ok (.iconst 0, 1) := by decide +kernel
theorem dX2_isLetter_155 : decode cX2_isLetter 155 = .ok (.ireturn, 1) := by decide +kernel
