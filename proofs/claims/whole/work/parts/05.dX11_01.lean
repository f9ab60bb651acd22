theorem dX11_back_43 : decode cX11_back 43 = .ok (.invokevirtual 164, 3) := by decide +kernel
theorem dX11_back_46 : decode cX11_back 46 = .ok (.putfield 68, 3) := by decide +kernel
theorem dX11_back_49 : decode cX11_back 49 = .ok (.iload_n 3, 1) := by decide +kernel
theorem dX11_back_50 : decode cX11_back 50 = .ok (.ifCond .ne 6, 3) := by decide +kernel
theorem dX11_back_53 : decode cX11_back 53 = .ok (.bipush (-2), 2) := by decide +kernel
theorem dX11_back_55 : decode cX11_back 55 = .ok (.ireturn, 1) := by decide +kernel
theorem dX11_back_56 : decode cX11_back 56 = .ok (.aload_n 0, 1) := by decide +kernel
theorem dX11_back_57 : decode cX11_back 57 = .ok (.getfield 64, 3) := by decide +kernel
theorem dX11_back_60 : decode cX11_back 60 = .ok (.invokevirtual 167, 3) := by decide +kernel
theorem dX11_back_63 : decode cX11_back 63 = .ok (.invokevirtual 171, 3) := by decide +kernel
theorem dX11_back_66 : decode cX11_back 66 = .ok (.ifCond .eq 6, 3) := by decide +kernel
theorem dX11_back_69 : decode cX11_back 69 = .ok (.bipush (-3), 2) := by decide +kernel
theorem dX11_back_71 : decode cX11_back 71 = .ok (.ireturn, 1) := by decide +kernel
theorem dX11_back_72 : decode cX11_back 72 = .ok (.aload_n 0, 1) := by decide +kernel
theorem dX11_back_73 : decode cX11_back 73 = .ok (.getfield 24, 3) := by decide +kernel
theorem dX11_back_76 : decode cX11_back 76 = .ok (.aload_n 0, 1) := by decide +kernel
theorem dX11_back_77 : decode cX11_back 77 = .ok (.getfield 64, 3) := by decide +kernel
theorem dX11_back_80 : decode cX11_back 80 = .ok (.invokevirtual 167, 3) := by decide +kernel
theorem dX11_back_83 : decode cX11_back 83 = .ok (.invokevirtual 174, 3) := by decide +kernel
theorem dX11_back_86 : decode cX11_back 86 = .ok (.aload_n 0, 1) := by decide +kernel
theorem dX11_back_87 : decode cX11_back 87 = .ok (.getfield 24, 3) := by decide +kernel
theorem dX11_back_90 : decode cX11_back 90 = .ok (.invokevirtual 79, 3) := by decide +kernel
theorem dX11_back_93 : decode cX11_back 93 = .ok (.ireturn, 1) := by decide +kernel
theorem dX11_patch_0 : decode cX11_patch 0 = .ok (.aload_n 0, 1) := by decide +kernel
theorem dX11_patch_1 : decode cX11_patch 1 = .ok (.getfield 21, 3) := by decide +kernel
theorem dX11_patch_4 : decode cX11_patch 4 = .ok (.iload_n 1, 1) := by decide +kernel
theorem dX11_patch_5 : decode cX11_patch 5 = .ok (.invokevirtual 177, 3) := by decide +kernel
theorem dX11_patch_8 : decode cX11_patch 8 = .ok (.istore_n 3, 1) := by decide +kernel
theorem dX11_patch_9 : decode cX11_patch 9 = .ok (.iload_n 3, 1) := by decide +kernel
theorem dX11_patch_10 : decode cX11_patch 10 = .ok (.iconst (-1), 1) := by decide +kernel
theorem dX11_patch_11 : decode cX11_patch 11 = .ok (.if_icmp .ne 11, 3) := by decide +kernel
theorem dX11_patch_14 : decode cX11_patch 14 = .ok (.new 180, 3) := by decide +kernel
theorem dX11_patch_17 : decode cX11_patch 17 = .ok (.dup, 1) := by decide +kernel
theorem dX11_patch_18 : decode cX11_patch 18 = .ok (.invokespecial 182, 3) := by decide +kernel
theorem dX11_patch_21 : decode cX11_patch 21 = .ok (.athrow, 1) := by decide +kernel
theorem dX11_patch_22 : decode cX11_patch 22 = .ok (.iload_n 2, 1) := by decide +kernel
theorem dX11_patch_23 : decode cX11_patch 23 = .ok (.ifCond .lt 10, 3) := by decide +kernel
theorem dX11_patch_26 : decode cX11_patch 26 = .ok (.iload_n 2, 1) := by decide +kernel
theorem dX11_patch_27 : decode cX11_patch 27 = .ok (.sipush 255, 3) := by decide +kernel
theorem dX11_patch_30 : decode cX11_patch 30 = .ok (.if_icmp .le 11, 3) := by decide +kernel
theorem dX11_patch_33 : decode cX11_patch 33 = .ok (.new 103, 3) := by decide +kernel
theorem dX11_patch_36 : decode cX11_patch 36 = .ok (.dup, 1) := by decide +kernel
theorem dX11_patch_37 : decode cX11_patch 37 = .ok (.invokespecial 105, 3) := by decide +kernel
theorem dX11_patch_40 : decode cX11_patch 40 = .ok (.athrow, 1) := by decide +kernel
theorem dX11_patch_41 : decode cX11_patch 41 = .ok (.aload_n 0, 1) := by decide +kernel
theorem dX11_patch_42 : decode cX11_patch 42 = .ok (.getfield 21, 3) := by decide +kernel
theorem dX11_patch_45 : decode cX11_patch 45 = .ok (.iload_n 1, 1) := by decide +kernel
theorem dX11_patch_46 : decode cX11_patch 46 = .ok (.iload_n 2, 1) := by decide +kernel
theorem dX11_patch_47 : decode cX11_patch 47 = .ok (.invokevirtual 183, 3) := by decide +kernel
theorem dX11_patch_50 : decode cX11_patch 50 = .ok (.iload_n 3, 1) := by decide +kernel
theorem dX11_patch_51 : decode cX11_patch 51 = .ok (.ireturn, 1) := by decide +kernel
theorem dX11_trim_0 : decode cX11_trim 0 = .ok (.iload_n 1, 1) := by decide +kernel
theorem dX11_trim_1 : decode cX11_trim 1 = .ok (.ifCond .lt 14, 3) := by decide +kernel
theorem dX11_trim_4 : decode cX11_trim 4 = .ok (.iload_n 1, 1) := by decide +kernel
theorem dX11_trim_5 : decode cX11_trim 5 = .ok (.aload_n 0, 1) := by decide +kernel
theorem dX11_trim_6 : decode cX11_trim 6 = .ok (.getfield 21, 3) := by decide +kernel
theorem dX11_trim_9 : decode cX11_trim 9 = .ok (.invokevirtual 79, 3) := by decide +kernel
theorem dX11_trim_12 : decode cX11_trim 12 = .ok (.if_icmp .le 11, 3) := by decide +kernel
theorem dX11_trim_15 : decode cX11_trim 15 = .ok (.new 103, 3) := by decide +kernel
theorem dX11_trim_18 : decode cX11_trim 18 = .ok (.dup, 1) := by decide +kernel
theorem dX11_trim_19 : decode cX11_trim 19 = .ok (.invokespecial 105, 3) := by decide +kernel
theorem dX11_trim_22 : decode cX11_trim 22 = .ok (.athrow, 1) := by decide +kernel
theorem dX11_trim_23 : decode cX11_trim 23 = .ok (.aload_n 0, 1) := by decide +kernel
theorem dX11_trim_24 : decode cX11_trim 24 = .ok (.getfield 21, 3) := by decide +kernel
theorem dX11_trim_27 : decode cX11_trim 27 = .ok (.iload_n 1, 1) := by decide +kernel
theorem dX11_trim_28 : decode cX11_trim 28 = .ok (.invokevirtual 135, 3) := by decide +kernel
theorem dX11_trim_31 : decode cX11_trim 31 = .ok (.ireturn, 1) := by decide +kernel
theorem dX11_place_0 : decode cX11_place 0 = .ok (.aload_n 0, 1) := by decide +kernel
theorem dX11_place_1 : decode cX11_place 1 = .ok (.getfield 68, 3) := by decide +kernel
theorem dX11_place_4 : decode cX11_place 4 = .ok (.ireturn, 1) := by decide +kernel
theorem dX11_output_0 : decode cX11_output 0 = .ok (.aload_n 0, 1) := by decide +kernel
theorem dX11_output_1 : decode cX11_output 1 = .ok (.getfield 21, 3) := by decide +kernel
theorem dX11_output_4 : decode cX11_output 4 = .ok (.iload_n 1, 1) := by decide +kernel
theorem dX11_output_5 : decode cX11_output 5 = .ok (.invokevirtual 177, 3) := by decide +kernel
theorem dX11_output_8 : decode cX11_output 8 = .ok (.ireturn, 1) := by decide +kernel
theorem dX11_data_0 : decode cX11_data 0 = .ok (.aload_n 0, 1) := by decide +kernel
theorem dX11_data_1 : decode cX11_data 1 = .ok (.getfield 24, 3) := by decide +kernel
theorem dX11_data_4 : decode cX11_data 4 = .ok (.iload_n 1, 1) := by decide +kernel
theorem dX11_data_5 : decode cX11_data 5 = .ok (.invokevirtual 177, 3) := by decide +kernel
theorem dX11_data_8 : decode cX11_data 8 = .ok (.ireturn, 1) := by decide +kernel
theorem dX11_byteOf_0 : decode cX11_byteOf 0 = .ok (.iload_n 0, 1) := by decide +kernel
theorem dX11_byteOf_1 : decode cX11_byteOf 1 = .ok (.bipush 24, 2) := by decide +kernel
theorem dX11_byteOf_3 : decode cX11_byteOf 3 = .ok (.bipush 8, 2) := by decide +kernel
theorem dX11_byteOf_5 : decode cX11_byteOf 5 = .ok (.iload_n 1, 1) := by decide +kernel
theorem dX11_byteOf_6 : decode cX11_byteOf 6 = .ok (.imul, 1) := by decide +kernel
theorem dX11_byteOf_7 : decode cX11_byteOf 7 = .ok (.isub, 1) := by decide +kernel
theorem dX11_byteOf_8 : decode cX11_byteOf 8 = .ok (.iushr, 1) := by decide +kernel
theorem dX11_byteOf_9 : decode cX11_byteOf 9 = .ok (.sipush 255, 3) := by decide +kernel
theorem dX11_byteOf_12 : decode cX11_byteOf 12 = .ok (.iand, 1) := by decide +kernel
theorem dX11_byteOf_13 : decode cX11_byteOf 13 = .ok (.ireturn, 1) := by decide +kernel
theorem dX11_charactersIn_0 : decode cX11_charactersIn 0 = .ok (.iconst 0, 1) := by decide +kernel
theorem dX11_charactersIn_1 : decode cX11_charactersIn 1 = .ok (.istore_n 1, 1) := by decide +kernel
theorem dX11_charactersIn_2 : decode cX11_charactersIn 2 = .ok (.iconst 0, 1) := by decide +kernel
theorem dX11_charactersIn_3 : decode cX11_charactersIn 3 = .ok (.istore_n 2, 1) := by decide +kernel
theorem dX11_charactersIn_4 : decode cX11_charactersIn 4 = .ok (.iload_n 2, 1) := by decide +kernel
theorem dX11_charactersIn_5 : decode cX11_charactersIn 5 = .ok (.iconst 4, 1) := by decide +kernel
theorem dX11_charactersIn_6 : decode cX11_charactersIn 6 = .ok (.if_icmp .ge 20, 3) := by decide +kernel
theorem dX11_charactersIn_9 : decode cX11_charactersIn 9 = .ok (.iload_n 0, 1) := by decide +kernel
theorem dX11_charactersIn_10 : decode cX11_charactersIn 10 = .ok (.iload_n 2, 1) := by decide +kernel
theorem dX11_charactersIn_11 : decode cX11_charactersIn 11 = .ok (.invokestatic 186, 3) := by decide +kernel
theorem dX11_charactersIn_14 : decode cX11_charactersIn 14 = .ok (.ifCond .eq 6, 3) := by decide +kernel
theorem dX11_charactersIn_17 : decode cX11_charactersIn 17 = .ok (.iinc 1 1, 3) := by decide +kernel
theorem dX11_charactersIn_20 : decode cX11_charactersIn 20 = .ok (.iinc 2 1, 3) := by decide +kernel
theorem dX11_charactersIn_23 : decode cX11_charactersIn 23 = .ok (.goto (-19), 3) := by decide +kernel
theorem dX11_charactersIn_26 : decode cX11_charactersIn 26 = .ok (.iload_n 1, 1) := by decide +kernel
theorem dX11_charactersIn_27 : decode cX11_charactersIn 27 = .ok (.ireturn, 1) := by decide +kernel
theorem dX11_typeWord_0 : decode cX11_typeWord 0 = .ok (.iconst 0, 1) := by decide +kernel
theorem dX11_typeWord_1 : decode cX11_typeWord 1 = .ok (.istore_n 2, 1) := by decide +kernel
theorem dX11_typeWord_2 : decode cX11_typeWord 2 = .ok (.iload_n 2, 1) := by decide +kernel
theorem dX11_typeWord_3 : decode cX11_typeWord 3 = .ok (.iconst 4, 1) := by decide +kernel
theorem dX11_typeWord_4 : decode cX11_typeWord 4 = .ok (.if_icmp .ge 27, 3) := by decide +kernel
theorem dX11_typeWord_7 : decode cX11_typeWord 7 = .ok (.iload_n 1, 1) := by decide +kernel
theorem dX11_typeWord_8 : decode cX11_typeWord 8 = .ok (.iload_n 2, 1) := by decide +kernel
theorem dX11_typeWord_9 : decode cX11_typeWord 9 = .ok (.invokestatic 186, 3) := by decide +kernel
theorem dX11_typeWord_12 : decode cX11_typeWord 12 = .ok (.istore_n 3, 1) := by decide +kernel
theorem dX11_typeWord_13 : decode cX11_typeWord 13 = .ok (.iload_n 3, 1) := by decide +kernel
theorem dX11_typeWord_14 : decode cX11_typeWord 14 = .ok (.ifCond .eq 11, 3) := by decide +kernel
theorem dX11_typeWord_17 : decode cX11_typeWord 17 = .ok (.aload_n 0, 1) := by decide +kernel
theorem dX11_typeWord_18 : decode cX11_typeWord 18 = .ok (.getfield 17, 3) := by decide +kernel
theorem dX11_typeWord_21 : decode cX11_typeWord 21 = .ok (.iload_n 3, 1) := by decide +kernel
theorem dX11_typeWord_22 : decode cX11_typeWord 22 = .ok (.invokevirtual 189, 3) := by decide +kernel
theorem dX11_typeWord_25 : decode cX11_typeWord 25 = .ok (.iinc 2 1, 3) := by decide +kernel
theorem dX11_typeWord_28 : decode cX11_typeWord 28 = .ok (.goto (-26), 3) := by decide +kernel
theorem dX11_typeWord_31 : decode cX11_typeWord 31 = .ok (.return_, 1) := by decide +kernel
theorem dX11_feedWord_0 : decode cX11_feedWord 0 = .ok (.iconst 0, 1) := by decide +kernel
theorem dX11_feedWord_1 : decode cX11_feedWord 1 = .ok (.istore_n 3, 1) := by decide +kernel
theorem dX11_feedWord_2 : decode cX11_feedWord 2 = .ok (.iload_n 3, 1) := by decide +kernel
theorem dX11_feedWord_3 : decode cX11_feedWord 3 = .ok (.iconst 4, 1) := by decide +kernel
theorem dX11_feedWord_4 : decode cX11_feedWord 4 = .ok (.if_icmp .ge 26, 3) := by decide +kernel
theorem dX11_feedWord_7 : decode cX11_feedWord 7 = .ok (.iload_n 3, 1) := by decide +kernel
theorem dX11_feedWord_8 : decode cX11_feedWord 8 = .ok (.iload_n 2, 1) := by decide +kernel
theorem dX11_feedWord_9 : decode cX11_feedWord 9 = .ok (.if_icmp .ge 21, 3) := by decide +kernel
theorem dX11_feedWord_12 : decode cX11_feedWord 12 = .ok (.aload_n 0, 1) := by decide +kernel
theorem dX11_feedWord_13 : decode cX11_feedWord 13 = .ok (.getfield 24, 3) := by decide +kernel
theorem dX11_feedWord_16 : decode cX11_feedWord 16 = .ok (.iload_n 1, 1) := by decide +kernel
theorem dX11_feedWord_17 : decode cX11_feedWord 17 = .ok (.iload_n 3, 1) := by decide +kernel
theorem dX11_feedWord_18 : decode cX11_feedWord 18 = .ok (.invokestatic 186, 3) := by decide +kernel
theorem dX11_feedWord_21 : decode cX11_feedWord 21 = .ok (.invokevirtual 189, 3) := by decide +kernel
theorem dX11_feedWord_24 : decode cX11_feedWord 24 = .ok (.iinc 3 1, 3) := by decide +kernel
theorem dX11_feedWord_27 : decode cX11_feedWord 27 = .ok (.goto (-25), 3) := by decide +kernel
theorem dX11_feedWord_30 : decode cX11_feedWord 30 = .ok (.return_, 1) := by decide +kernel
theorem dX11_answerOfPage_0 : decode cX11_answerOfPage 0 = .ok (.aload_n 0, 1) := by decide +kernel
theorem dX11_answerOfPage_1 : decode cX11_answerOfPage 1 = .ok (.getfield 21, 3) := by decide +kernel
theorem dX11_answerOfPage_4 : decode cX11_answerOfPage 4 = .ok (.invokevirtual 171, 3) := by decide +kernel
theorem dX11_answerOfPage_7 : decode cX11_answerOfPage 7 = .ok (.ifCond .eq 13, 3) := by decide +kernel
theorem dX11_answerOfPage_10 : decode cX11_answerOfPage 10 = .ok (.aload_n 0, 1) := by decide +kernel
theorem dX11_answerOfPage_11 : decode cX11_answerOfPage 11 = .ok (.getfield 21, 3) := by decide +kernel
theorem dX11_answerOfPage_14 : decode cX11_answerOfPage 14 = .ok (.invokevirtual 89, 3) := by decide +kernel
theorem dX11_answerOfPage_17 : decode cX11_answerOfPage 17 = .ok (.bipush (-3), 2) := by decide +kernel
theorem dX11_answerOfPage_19 : decode cX11_answerOfPage 19 = .ok (.ireturn, 1) := by decide +kernel
theorem dX11_answerOfPage_20 : decode cX11_answerOfPage 20 = .ok (.aload_n 0, 1) := by decide +kernel
theorem dX11_answerOfPage_21 : decode cX11_answerOfPage 21 = .ok (.getfield 21, 3) := by decide +kernel
theorem dX11_answerOfPage_24 : decode cX11_answerOfPage 24 = .ok (.invokevirtual 79, 3) := by decide +kernel
theorem dX11_answerOfPage_27 : decode cX11_answerOfPage 27 = .ok (.ireturn, 1) := by decide +kernel
theorem dX11_isAddressBase_0 : decode cX11_isAddressBase 0 = .ok (.iload_n 0, 1) := by decide +kernel
theorem dX11_isAddressBase_1 : decode cX11_isAddressBase 1 = .ok (.ifCond .eq 21, 3) := by decide +kernel
theorem dX11_isAddressBase_4 : decode cX11_isAddressBase 4 = .ok (.iload_n 0, 1) := by decide +kernel
theorem dX11_isAddressBase_5 : decode cX11_isAddressBase 5 = .ok (.bipush 8, 2) := by decide +kernel
theorem dX11_isAddressBase_7 : decode cX11_isAddressBase 7 = .ok (.if_icmp .eq 15, 3) := by decide +kernel
theorem dX11_isAddressBase_10 : decode cX11_isAddressBase 10 = .ok (.iload_n 0, 1) := by decide +kernel
theorem dX11_isAddressBase_11 : decode cX11_isAddressBase 11 = .ok (.bipush 10, 2) := by decide +kernel
theorem dX11_isAddressBase_13 : decode cX11_isAddressBase 13 = .ok (.if_icmp .eq 9, 3) := by decide +kernel
theorem dX11_isAddressBase_16 : decode cX11_isAddressBase 16 = .ok (.iload_n 0, 1) := by decide +kernel
theorem dX11_isAddressBase_17 : decode cX11_isAddressBase 17 = .ok (.bipush 16, 2) := by decide +kernel
theorem dX11_isAddressBase_19 : decode cX11_isAddressBase 19 = .ok (.if_icmp .ne 7, 3) := by decide +kernel
theorem dX11_isAddressBase_22 : decode cX11_isAddressBase 22 = .ok (.iconst 1, 1) := by decide +kernel
theorem dX11_isAddressBase_23 : decode cX11_isAddressBase 23 = .ok (.goto 4, 3) := by decide +kernel
theorem dX11_isAddressBase_26 : decode cX11_isAddressBase 26 = .ok (.iconst 0, 1) := by decide +kernel
theorem dX11_isAddressBase_27 : decode cX11_isAddressBase 27 = .ok (.ireturn, 1) := by decide +kernel
theorem dX11_isWord_0 : decode cX11_isWord 0 = .ok (.iload_n 0, 1) := by decide +kernel
theorem dX11_isWord_1 : decode cX11_isWord 1 = .ok (.bipush 99, 2) := by decide +kernel
theorem dX11_isWord_3 : decode cX11_isWord 3 = .ok (.if_icmp .ne 14, 3) := by decide +kernel
theorem dX11_isWord_6 : decode cX11_isWord 6 = .ok (.iload_n 1, 1) := by decide +kernel
theorem dX11_isWord_7 : decode cX11_isWord 7 = .ok (.iconst 1, 1) := by decide +kernel
theorem dX11_isWord_8 : decode cX11_isWord 8 = .ok (.if_icmp .ne 7, 3) := by decide +kernel
theorem dX11_isWord_11 : decode cX11_isWord 11 = .ok (.iconst 1, 1) := by decide +kernel
theorem dX11_isWord_12 : decode cX11_isWord 12 = .ok (.goto 4, 3) := by decide +kernel
theorem dX11_isWord_15 : decode cX11_isWord 15 = .ok (.iconst 0, 1) := by decide +kernel
theorem dX11_isWord_16 : decode cX11_isWord 16 = .ok (.ireturn, 1) := by decide +kernel
theorem dX11_isWord_17 : decode cX11_isWord 17 = .ok (.iload_n 0, 1) := by decide +kernel
theorem dX11_isWord_18 : decode cX11_isWord 18 = .ok (.bipush 111, 2) := by decide +kernel
theorem dX11_isWord_20 : decode cX11_isWord 20 = .ok (.if_icmp .eq 21, 3) := by decide +kernel
theorem dX11_isWord_23 : decode cX11_isWord 23 = .ok (.iload_n 0, 1) := by decide +kernel
theorem dX11_isWord_24 : decode cX11_isWord 24 = .ok (.bipush 120, 2) := by decide +kernel
theorem dX11_isWord_26 : decode cX11_isWord 26 = .ok (.if_icmp .eq 15, 3) := by decide +kernel
theorem dX11_isWord_29 : decode cX11_isWord 29 = .ok (.iload_n 0, 1) := by decide +kernel
theorem dX11_isWord_30 : decode cX11_isWord 30 = .ok (.bipush 117, 2) := by decide +kernel
theorem dX11_isWord_32 : decode cX11_isWord 32 = .ok (.if_icmp .eq 9, 3) := by decide +kernel
theorem dX11_isWord_35 : decode cX11_isWord 35 = .ok (.iload_n 0, 1) := by decide +kernel
theorem dX11_isWord_36 : decode cX11_isWord 36 = .ok (.bipush 100, 2) := by decide +kernel
theorem dX11_isWord_38 : decode cX11_isWord 38 = .ok (.if_icmp .ne 7, 3) := by decide +kernel
theorem dX11_isWord_41 : decode cX11_isWord 41 = .ok (.iconst 1, 1) := by decide +kernel
theorem dX11_isWord_42 : decode cX11_isWord 42 = .ok (.goto 4, 3) := by decide +kernel
theorem dX11_isWord_45 : decode cX11_isWord 45 = .ok (.iconst 0, 1) := by decide +kernel
theorem dX11_isWord_46 : decode cX11_isWord 46 = .ok (.istore_n 2, 1) := by decide +kernel
theorem dX11_isWord_47 : decode cX11_isWord 47 = .ok (.iload_n 2, 1) := by decide +kernel
theorem dX11_isWord_48 : decode cX11_isWord 48 = .ok (.ifCond .eq 28, 3) := by decide +kernel
theorem dX11_isWord_51 : decode cX11_isWord 51 = .ok (.iload_n 1, 1) := by decide +kernel
theorem dX11_isWord_52 : decode cX11_isWord 52 = .ok (.iconst 1, 1) := by decide +kernel
theorem dX11_isWord_53 : decode cX11_isWord 53 = .ok (.if_icmp .eq 19, 3) := by decide +kernel
theorem dX11_isWord_56 : decode cX11_isWord 56 = .ok (.iload_n 1, 1) := by decide +kernel
theorem dX11_isWord_57 : decode cX11_isWord 57 = .ok (.iconst 2, 1) := by decide +kernel
theorem dX11_isWord_58 : decode cX11_isWord 58 = .ok (.if_icmp .eq 14, 3) := by decide +kernel
theorem dX11_isWord_61 : decode cX11_isWord 61 = .ok (.iload_n 1, 1) := by decide +kernel
theorem dX11_isWord_62 : decode cX11_isWord 62 = .ok (.iconst 4, 1) := by decide +kernel
theorem dX11_isWord_63 : decode cX11_isWord 63 = .ok (.if_icmp .eq 9, 3) := by decide +kernel
theorem dX11_isWord_66 : decode cX11_isWord 66 = .ok (.iload_n 1, 1) := by decide +kernel
theorem dX11_isWord_67 : decode cX11_isWord 67 = .ok (.bipush 8, 2) := by decide +kernel
theorem dX11_isWord_69 : decode cX11_isWord 69 = .ok (.if_icmp .ne 7, 3) := by decide +kernel
theorem dX11_isWord_72 : decode cX11_isWord 72 = .ok (.iconst 1, 1) := by decide +kernel
theorem dX11_isWord_73 : decode cX11_isWord 73 = .ok (.goto 4, 3) := by decide +kernel
theorem dX11_isWord_76 : decode cX11_isWord 76 = .ok (.iconst 0, 1) := by decide +kernel
theorem dX11_isWord_77 : decode cX11_isWord 77 = .ok (.ireturn, 1) := by decide +kernel
theorem dX11_isShape_0 : decode cX11_isShape 0 = .ok (.iload_n 0, 1) := by decide +kernel
theorem dX11_isShape_1 : decode cX11_isShape 1 = .ok (.iconst 1, 1) := by decide +kernel
theorem dX11_isShape_2 : decode cX11_isShape 2 = .ok (.if_icmp .lt 22, 3) := by decide +kernel
theorem dX11_isShape_5 : decode cX11_isShape 5 = .ok (.iload_n 0, 1) := by decide +kernel
theorem dX11_isShape_6 : decode cX11_isShape 6 = .ok (.bipush 32, 2) := by decide +kernel
theorem dX11_isShape_8 : decode cX11_isShape 8 = .ok (.if_icmp .gt 16, 3) := by decide +kernel
theorem dX11_isShape_11 : decode cX11_isShape 11 = .ok (.iload_n 1, 1) := by decide +kernel
theorem dX11_isShape_12 : decode cX11_isShape 12 = .ok (.ifCond .lt 12, 3) := by decide +kernel
theorem dX11_isShape_15 : decode cX11_isShape 15 = .ok (.iload_n 1, 1) := by decide +kernel
theorem dX11_isShape_16 : decode cX11_isShape 16 = .ok (.iload_n 0, 1) := by decide +kernel
theorem dX11_isShape_17 : decode cX11_isShape 17 = .ok (.if_icmp .gt 7, 3) := by decide +kernel
theorem dX11_isShape_20 : decode cX11_isShape 20 = .ok (.iconst 1, 1) := by decide +kernel
theorem dX11_isShape_21 : decode cX11_isShape 21 = .ok (.goto 4, 3) := by decide +kernel
theorem dX11_isShape_24 : decode cX11_isShape 24 = .ok (.iconst 0, 1) := by decide +kernel
theorem dX11_isShape_25 : decode cX11_isShape 25 = .ok (.ireturn, 1) := by decide +kernel
theorem dX11_groupOf_0 : decode cX11_groupOf 0 = .ok (.iload_n 1, 1) := by decide +kernel
theorem dX11_groupOf_1 : decode cX11_groupOf 1 = .ok (.ifCond .ne 7, 3) := by decide +kernel
theorem dX11_groupOf_4 : decode cX11_groupOf 4 = .ok (.iload_n 0, 1) := by decide +kernel
theorem dX11_groupOf_5 : decode cX11_groupOf 5 = .ok (.goto 4, 3) := by decide +kernel
theorem dX11_groupOf_8 : decode cX11_groupOf 8 = .ok (.iload_n 1, 1) := by decide +kernel
theorem dX11_groupOf_9 : decode cX11_groupOf 9 = .ok (.ireturn, 1) := by decide +kernel
theorem dX11_digitOf_0 : decode cX11_digitOf 0 = .ok (.iconst (-1), 1) := by decide +kernel
theorem dX11_digitOf_1 : decode cX11_digitOf 1 = .ok (.istore_n 2, 1) := by decide +kernel
theorem dX11_digitOf_2 : decode cX11_digitOf 2 = .ok (.iload_n 0, 1) := by decide +kernel
theorem dX11_digitOf_3 : decode cX11_digitOf 3 = .ok (.bipush 48, 2) := by decide +kernel
theorem dX11_digitOf_5 : decode cX11_digitOf 5 = .ok (.if_icmp .lt 17, 3) := by decide +kernel
theorem dX11_digitOf_8 : decode cX11_digitOf 8 = .ok (.iload_n 0, 1) := by decide +kernel
theorem dX11_digitOf_9 : decode cX11_digitOf 9 = .ok (.bipush 57, 2) := by decide +kernel
theorem dX11_digitOf_11 : decode cX11_digitOf 11 = .ok (.if_icmp .gt 11, 3) := by decide +kernel
theorem dX11_digitOf_14 : decode cX11_digitOf 14 = .ok (.iload_n 0, 1) := by decide +kernel
theorem dX11_digitOf_15 : decode cX11_digitOf 15 = .ok (.bipush 48, 2) := by decide +kernel
theorem dX11_digitOf_17 : decode cX11_digitOf 17 = .ok (.isub, 1) := by decide +kernel
theorem dX11_digitOf_18 : decode cX11_digitOf 18 = .ok (.istore_n 2, 1) := by decide +kernel
theorem dX11_digitOf_19 : decode cX11_digitOf 19 = .ok (.goto 46, 3) := by decide +kernel
theorem dX11_digitOf_22 : decode cX11_digitOf 22 = .ok (.iload_n 0, 1) := by decide +kernel
theorem dX11_digitOf_23 : decode cX11_digitOf 23 = .ok (.bipush 97, 2) := by decide +kernel
theorem dX11_digitOf_25 : decode cX11_digitOf 25 = .ok (.if_icmp .lt 20, 3) := by decide +kernel
theorem dX11_digitOf_28 : decode cX11_digitOf 28 = .ok (.iload_n 0, 1) := by decide +kernel
theorem dX11_digitOf_29 : decode cX11_digitOf 29 = .ok (.bipush 102, 2) := by decide +kernel
theorem dX11_digitOf_31 : decode cX11_digitOf 31 = .ok (.if_icmp .gt 14, 3) := by decide +kernel
theorem dX11_digitOf_34 : decode cX11_digitOf 34 = .ok (.iload_n 0, 1) := by decide +kernel
theorem dX11_digitOf_35 : decode cX11_digitOf 35 = .ok (.bipush 97, 2) := by decide +kernel
theorem dX11_digitOf_37 : decode cX11_digitOf 37 = .ok (.isub, 1) := by decide +kernel
theorem dX11_digitOf_38 : decode cX11_digitOf 38 = .ok (.bipush 10, 2) := by decide +kernel
theorem dX11_digitOf_40 : decode cX11_digitOf 40 = .ok (.iadd, 1) := by decide +kernel
theorem dX11_digitOf_41 : decode cX11_digitOf 41 = .ok (.istore_n 2, 1) := by decide +kernel
theorem dX11_digitOf_42 : decode cX11_digitOf 42 = .ok (.goto 23, 3) := by decide +kernel
theorem dX11_digitOf_45 : decode cX11_digitOf 45 = .ok (.iload_n 0, 1) := by decide +kernel
theorem dX11_digitOf_46 : decode cX11_digitOf 46 = .ok (.bipush 65, 2) := by decide +kernel
theorem dX11_digitOf_48 : decode cX11_digitOf 48 = .ok (.if_icmp .lt 17, 3) := by decide +kernel
theorem dX11_digitOf_51 : decode cX11_digitOf 51 = .ok (.iload_n 0, 1) := by decide +kernel
theorem dX11_digitOf_52 : decode cX11_digitOf 52 = .ok (.bipush 70, 2) := by decide +kernel
theorem dX11_digitOf_54 : decode cX11_digitOf 54 = .ok (.if_icmp .gt 11, 3) := by decide +kernel
theorem dX11_digitOf_57 : decode cX11_digitOf 57 = .ok (.iload_n 0, 1) := by decide +kernel
theorem dX11_digitOf_58 : decode cX11_digitOf 58 = .ok (.bipush 65, 2) := by decide +kernel
theorem dX11_digitOf_60 : decode cX11_digitOf 60 = .ok (.isub, 1) := by decide +kernel
theorem dX11_digitOf_61 : decode cX11_digitOf 61 = .ok (.bipush 10, 2) := by decide +kernel
theorem dX11_digitOf_63 : decode cX11_digitOf 63 = .ok (.iadd, 1) := by decide +kernel
theorem dX11_digitOf_64 : decode cX11_digitOf 64 = .ok (.istore_n 2, 1) := by decide +kernel
theorem dX11_digitOf_65 : decode cX11_digitOf 65 = .ok (.iload_n 2, 1) := by decide +kernel
theorem dX11_digitOf_66 : decode cX11_digitOf 66 = .ok (.iload_n 1, 1) := by decide +kernel
theorem dX11_digitOf_67 : decode cX11_digitOf 67 = .ok (.if_icmp .ge 7, 3) := by decide +kernel
theorem dX11_digitOf_70 : decode cX11_digitOf 70 = .ok (.iload_n 2, 1) := by decide +kernel
theorem dX11_digitOf_71 : decode cX11_digitOf 71 = .ok (.goto 4, 3) := by decide +kernel
theorem dX11_digitOf_74 : decode cX11_digitOf 74 = .ok (.iconst (-1), 1) := by decide +kernel
theorem dX11_digitOf_75 : decode cX11_digitOf 75 = .ok (.ireturn, 1) := by decide +kernel
theorem dX11_canBeSeen_0 : decode cX11_canBeSeen 0 = .ok (.iload_n 0, 1) := by decide +kernel
theorem dX11_canBeSeen_1 : decode cX11_canBeSeen 1 = .ok (.bipush 32, 2) := by decide +kernel
theorem dX11_canBeSeen_3 : decode cX11_canBeSeen 3 = .ok (.if_icmp .lt 13, 3) := by decide +kernel
theorem dX11_canBeSeen_6 : decode cX11_canBeSeen 6 = .ok (.iload_n 0, 1) := by decide +kernel
theorem dX11_canBeSeen_7 : decode cX11_canBeSeen 7 = .ok (.bipush 126, 2) := by decide +kernel
theorem dX11_canBeSeen_9 : decode cX11_canBeSeen 9 = .ok (.if_icmp .gt 7, 3) := by decide +kernel
theorem dX11_canBeSeen_12 : decode cX11_canBeSeen 12 = .ok (.iconst 1, 1) := by decide +kernel
theorem dX11_canBeSeen_13 : decode cX11_canBeSeen 13 = .ok (.goto 4, 3) := by decide +kernel
theorem dX11_canBeSeen_16 : decode cX11_canBeSeen 16 = .ok (.iconst 0, 1) := by decide +kernel
theorem dX11_canBeSeen_17 : decode cX11_canBeSeen 17 = .ok (.ireturn, 1) := by decide +kernel
theorem dX11_seenAs_0 : decode cX11_seenAs 0 = .ok (.iload_n 0, 1) := by decide +kernel
theorem dX11_seenAs_1 : decode cX11_seenAs 1 = .ok (.invokestatic 192, 3) := by decide +kernel
theorem dX11_seenAs_4 : decode cX11_seenAs 4 = .ok (.ifCond .eq 7, 3) := by decide +kernel
theorem dX11_seenAs_7 : decode cX11_seenAs 7 = .ok (.iload_n 0, 1) := by decide +kernel
theorem dX11_seenAs_8 : decode cX11_seenAs 8 = .ok (.goto 5, 3) := by decide +kernel
theorem dX11_seenAs_11 : decode cX11_seenAs 11 = .ok (.bipush 46, 2) := by decide +kernel
theorem dX11_seenAs_13 : decode cX11_seenAs 13 = .ok (.ireturn, 1) := by decide +kernel
theorem dX11_pairsWidth_0 : decode cX11_pairsWidth 0 = .ok (.iconst 0, 1) := by decide +kernel
theorem dX11_pairsWidth_1 : decode cX11_pairsWidth 1 = .ok (.istore_n 2, 1) := by decide +kernel
theorem dX11_pairsWidth_2 : decode cX11_pairsWidth 2 = .ok (.iconst 0, 1) := by decide +kernel
theorem dX11_pairsWidth_3 : decode cX11_pairsWidth 3 = .ok (.istore_n 3, 1) := by decide +kernel
theorem dX11_pairsWidth_4 : decode cX11_pairsWidth 4 = .ok (.iload_n 3, 1) := by decide +kernel
theorem dX11_pairsWidth_5 : decode cX11_pairsWidth 5 = .ok (.iload_n 0, 1) := by decide +kernel
theorem dX11_pairsWidth_6 : decode cX11_pairsWidth 6 = .ok (.if_icmp .ge 21, 3) := by decide +kernel
theorem dX11_pairsWidth_9 : decode cX11_pairsWidth 9 = .ok (.iload_n 3, 1) := by decide +kernel
theorem dX11_pairsWidth_10 : decode cX11_pairsWidth 10 = .ok (.iload_n 0, 1) := by decide +kernel
theorem dX11_pairsWidth_11 : decode cX11_pairsWidth 11 = .ok (.iload_n 1, 1) := by decide +kernel
theorem dX11_pairsWidth_12 : decode cX11_pairsWidth 12 = .ok (.invokestatic 195, 3) := by decide +kernel
theorem dX11_pairsWidth_15 : decode cX11_pairsWidth 15 = .ok (.ifCond .eq 6, 3) := by decide +kernel
theorem dX11_pairsWidth_18 : decode cX11_pairsWidth 18 = .ok (.iinc 2 1, 3) := by decide +kernel
theorem dX11_pairsWidth_21 : decode cX11_pairsWidth 21 = .ok (.iinc 3 1, 3) := by decide +kernel
theorem dX11_pairsWidth_24 : decode cX11_pairsWidth 24 = .ok (.goto (-20), 3) := by decide +kernel
theorem dX11_pairsWidth_27 : decode cX11_pairsWidth 27 = .ok (.iconst 2, 1) := by decide +kernel
theorem dX11_pairsWidth_28 : decode cX11_pairsWidth 28 = .ok (.iload_n 0, 1) := by decide +kernel
theorem dX11_pairsWidth_29 : decode cX11_pairsWidth 29 = .ok (.imul, 1) := by decide +kernel
theorem dX11_pairsWidth_30 : decode cX11_pairsWidth 30 = .ok (.iload_n 2, 1) := by decide +kernel
theorem dX11_pairsWidth_31 : decode cX11_pairsWidth 31 = .ok (.iadd, 1) := by decide +kernel
theorem dX11_pairsWidth_32 : decode cX11_pairsWidth 32 = .ok (.ireturn, 1) := by decide +kernel
theorem dX11_endsGroup_0 : decode cX11_endsGroup 0 = .ok (.iload_n 0, 1) := by decide +kernel
theorem dX11_endsGroup_1 : decode cX11_endsGroup 1 = .ok (.iconst 1, 1) := by decide +kernel
theorem dX11_endsGroup_2 : decode cX11_endsGroup 2 = .ok (.iadd, 1) := by decide +kernel
theorem dX11_endsGroup_3 : decode cX11_endsGroup 3 = .ok (.iload_n 1, 1) := by decide +kernel
theorem dX11_endsGroup_4 : decode cX11_endsGroup 4 = .ok (.if_icmp .eq 15, 3) := by decide +kernel
theorem dX11_endsGroup_7 : decode cX11_endsGroup 7 = .ok (.iload_n 2, 1) := by decide +kernel
theorem dX11_endsGroup_8 : decode cX11_endsGroup 8 = .ok (.ifCond .le 15, 3) := by decide +kernel
theorem dX11_endsGroup_11 : decode cX11_endsGroup 11 = .ok (.iload_n 0, 1) := by decide +kernel
theorem dX11_endsGroup_12 : decode cX11_endsGroup 12 = .ok (.iconst 1, 1) := by decide +kernel
theorem dX11_endsGroup_13 : decode cX11_endsGroup 13 = .ok (.iadd, 1) := by decide +kernel
theorem dX11_endsGroup_14 : decode cX11_endsGroup 14 = .ok (.iload_n 2, 1) := by decide +kernel
theorem dX11_endsGroup_15 : decode cX11_endsGroup 15 = .ok (.irem, 1) := by decide +kernel
theorem dX11_endsGroup_16 : decode cX11_endsGroup 16 = .ok (.ifCond .ne 7, 3) := by decide +kernel
theorem dX11_endsGroup_19 : decode cX11_endsGroup 19 = .ok (.iconst 1, 1) := by decide +kernel
theorem dX11_endsGroup_20 : decode cX11_endsGroup 20 = .ok (.goto 4, 3) := by decide +kernel
theorem dX11_endsGroup_23 : decode cX11_endsGroup 23 = .ok (.iconst 0, 1) := by decide +kernel
theorem dX11_endsGroup_24 : decode cX11_endsGroup 24 = .ok (.ireturn, 1) := by decide +kernel
