theorem dX11_init_0 : decode cX11_init 0 = .ok (.aload_n 0, 1) := by decide +kernel
theorem dX11_init_1 : decode cX11_init 1 = .ok (.invokespecial 1, 3) := by decide +kernel
theorem dX11_init_4 : decode cX11_init 4 = .ok (.new 7, 3) := by decide +kernel
theorem dX11_init_7 : decode cX11_init 7 = .ok (.dup, 1) := by decide +kernel
theorem dX11_init_8 : decode cX11_init 8 = .ok (.invokespecial 9, 3) := by decide +kernel
theorem dX11_init_11 : decode cX11_init 11 = .ok (.astore_n 1, 1) := by decide +kernel
theorem dX11_init_12 : decode cX11_init 12 = .ok (.aload_n 0, 1) := by decide +kernel
theorem dX11_init_13 : decode cX11_init 13 = .ok (.new 10, 3) := by decide +kernel
theorem dX11_init_16 : decode cX11_init 16 = .ok (.dup, 1) := by decide +kernel
theorem dX11_init_17 : decode cX11_init 17 = .ok (.bipush 80, 2) := by decide +kernel
theorem dX11_init_19 : decode cX11_init 19 = .ok (.invokespecial 14, 3) := by decide +kernel
theorem dX11_init_22 : decode cX11_init 22 = .ok (.putfield 17, 3) := by decide +kernel
theorem dX11_init_25 : decode cX11_init 25 = .ok (.aload_n 0, 1) := by decide +kernel
theorem dX11_init_26 : decode cX11_init 26 = .ok (.new 10, 3) := by decide +kernel
theorem dX11_init_29 : decode cX11_init 29 = .ok (.dup, 1) := by decide +kernel
theorem dX11_init_30 : decode cX11_init 30 = .ok (.sipush 2000, 3) := by decide +kernel
theorem dX11_init_33 : decode cX11_init 33 = .ok (.invokespecial 14, 3) := by decide +kernel
theorem dX11_init_36 : decode cX11_init 36 = .ok (.putfield 21, 3) := by decide +kernel
theorem dX11_init_39 : decode cX11_init 39 = .ok (.aload_n 0, 1) := by decide +kernel
theorem dX11_init_40 : decode cX11_init 40 = .ok (.new 10, 3) := by decide +kernel
theorem dX11_init_43 : decode cX11_init 43 = .ok (.dup, 1) := by decide +kernel
theorem dX11_init_44 : decode cX11_init 44 = .ok (.sipush 256, 3) := by decide +kernel
theorem dX11_init_47 : decode cX11_init 47 = .ok (.invokespecial 14, 3) := by decide +kernel
theorem dX11_init_50 : decode cX11_init 50 = .ok (.putfield 24, 3) := by decide +kernel
theorem dX11_init_53 : decode cX11_init 53 = .ok (.aload_n 0, 1) := by decide +kernel
theorem dX11_init_54 : decode cX11_init 54 = .ok (.new 27, 3) := by decide +kernel
theorem dX11_init_57 : decode cX11_init 57 = .ok (.dup, 1) := by decide +kernel
theorem dX11_init_58 : decode cX11_init 58 = .ok (.invokespecial 29, 3) := by decide +kernel
theorem dX11_init_61 : decode cX11_init 61 = .ok (.putfield 30, 3) := by decide +kernel
theorem dX11_init_64 : decode cX11_init 64 = .ok (.aload_n 0, 1) := by decide +kernel
theorem dX11_init_65 : decode cX11_init 65 = .ok (.new 34, 3) := by decide +kernel
theorem dX11_init_68 : decode cX11_init 68 = .ok (.dup, 1) := by decide +kernel
theorem dX11_init_69 : decode cX11_init 69 = .ok (.aload_n 0, 1) := by decide +kernel
theorem dX11_init_70 : decode cX11_init 70 = .ok (.getfield 21, 3) := by decide +kernel
theorem dX11_init_73 : decode cX11_init 73 = .ok (.aload_n 0, 1) := by decide +kernel
theorem dX11_init_74 : decode cX11_init 74 = .ok (.getfield 30, 3) := by decide +kernel
theorem dX11_init_77 : decode cX11_init 77 = .ok (.aload_n 1, 1) := by decide +kernel
theorem dX11_init_78 : decode cX11_init 78 = .ok (.invokespecial 36, 3) := by decide +kernel
theorem dX11_init_81 : decode cX11_init 81 = .ok (.putfield 39, 3) := by decide +kernel
theorem dX11_init_84 : decode cX11_init 84 = .ok (.aload_n 0, 1) := by decide +kernel
theorem dX11_init_85 : decode cX11_init 85 = .ok (.new 43, 3) := by decide +kernel
theorem dX11_init_88 : decode cX11_init 88 = .ok (.dup, 1) := by decide +kernel
theorem dX11_init_89 : decode cX11_init 89 = .ok (.aload_n 0, 1) := by decide +kernel
theorem dX11_init_90 : decode cX11_init 90 = .ok (.getfield 21, 3) := by decide +kernel
theorem dX11_init_93 : decode cX11_init 93 = .ok (.aload_n 0, 1) := by decide +kernel
theorem dX11_init_94 : decode cX11_init 94 = .ok (.getfield 24, 3) := by decide +kernel
theorem dX11_init_97 : decode cX11_init 97 = .ok (.aload_n 1, 1) := by decide +kernel
theorem dX11_init_98 : decode cX11_init 98 = .ok (.invokespecial 45, 3) := by decide +kernel
theorem dX11_init_101 : decode cX11_init 101 = .ok (.putfield 48, 3) := by decide +kernel
theorem dX11_init_104 : decode cX11_init 104 = .ok (.aload_n 0, 1) := by decide +kernel
theorem dX11_init_105 : decode cX11_init 105 = .ok (.new 52, 3) := by decide +kernel
theorem dX11_init_108 : decode cX11_init 108 = .ok (.dup, 1) := by decide +kernel
theorem dX11_init_109 : decode cX11_init 109 = .ok (.aload_n 0, 1) := by decide +kernel
theorem dX11_init_110 : decode cX11_init 110 = .ok (.getfield 21, 3) := by decide +kernel
theorem dX11_init_113 : decode cX11_init 113 = .ok (.aload_n 0, 1) := by decide +kernel
theorem dX11_init_114 : decode cX11_init 114 = .ok (.getfield 24, 3) := by decide +kernel
theorem dX11_init_117 : decode cX11_init 117 = .ok (.aload_n 1, 1) := by decide +kernel
theorem dX11_init_118 : decode cX11_init 118 = .ok (.invokespecial 54, 3) := by decide +kernel
theorem dX11_init_121 : decode cX11_init 121 = .ok (.putfield 55, 3) := by decide +kernel
theorem dX11_init_124 : decode cX11_init 124 = .ok (.aload_n 0, 1) := by decide +kernel
theorem dX11_init_125 : decode cX11_init 125 = .ok (.new 59, 3) := by decide +kernel
theorem dX11_init_128 : decode cX11_init 128 = .ok (.dup, 1) := by decide +kernel
theorem dX11_init_129 : decode cX11_init 129 = .ok (.aload_n 0, 1) := by decide +kernel
theorem dX11_init_130 : decode cX11_init 130 = .ok (.getfield 21, 3) := by decide +kernel
theorem dX11_init_133 : decode cX11_init 133 = .ok (.invokespecial 61, 3) := by decide +kernel
theorem dX11_init_136 : decode cX11_init 136 = .ok (.putfield 64, 3) := by decide +kernel
theorem dX11_init_139 : decode cX11_init 139 = .ok (.aload_n 0, 1) := by decide +kernel
theorem dX11_init_140 : decode cX11_init 140 = .ok (.iconst (-1), 1) := by decide +kernel
theorem dX11_init_141 : decode cX11_init 141 = .ok (.putfield 68, 3) := by decide +kernel
theorem dX11_init_144 : decode cX11_init 144 = .ok (.aload_n 0, 1) := by decide +kernel
theorem dX11_init_145 : decode cX11_init 145 = .ok (.iconst 0, 1) := by decide +kernel
theorem dX11_init_146 : decode cX11_init 146 = .ok (.putfield 72, 3) := by decide +kernel
theorem dX11_init_149 : decode cX11_init 149 = .ok (.return_, 1) := by decide +kernel
theorem dX11_type_0 : decode cX11_type 0 = .ok (.iload_n 1, 1) := by decide +kernel
theorem dX11_type_1 : decode cX11_type 1 = .ok (.invokestatic 75, 3) := by decide +kernel
theorem dX11_type_4 : decode cX11_type 4 = .ok (.iload_n 2, 1) := by decide +kernel
theorem dX11_type_5 : decode cX11_type 5 = .ok (.invokestatic 75, 3) := by decide +kernel
theorem dX11_type_8 : decode cX11_type 8 = .ok (.iadd, 1) := by decide +kernel
theorem dX11_type_9 : decode cX11_type 9 = .ok (.iload_n 3, 1) := by decide +kernel
theorem dX11_type_10 : decode cX11_type 10 = .ok (.invokestatic 75, 3) := by decide +kernel
theorem dX11_type_13 : decode cX11_type 13 = .ok (.iadd, 1) := by decide +kernel
theorem dX11_type_14 : decode cX11_type 14 = .ok (.iload 4, 2) := by decide +kernel
theorem dX11_type_16 : decode cX11_type 16 = .ok (.invokestatic 75, 3) := by decide +kernel
theorem dX11_type_19 : decode cX11_type 19 = .ok (.iadd, 1) := by decide +kernel
theorem dX11_type_20 : decode cX11_type 20 = .ok (.iload 5, 2) := by decide +kernel
theorem dX11_type_22 : decode cX11_type 22 = .ok (.invokestatic 75, 3) := by decide +kernel
theorem dX11_type_25 : decode cX11_type 25 = .ok (.iadd, 1) := by decide +kernel
theorem dX11_type_26 : decode cX11_type 26 = .ok (.istore 6, 2) := by decide +kernel
theorem dX11_type_28 : decode cX11_type 28 = .ok (.aload_n 0, 1) := by decide +kernel
theorem dX11_type_29 : decode cX11_type 29 = .ok (.getfield 17, 3) := by decide +kernel
theorem dX11_type_32 : decode cX11_type 32 = .ok (.invokevirtual 79, 3) := by decide +kernel
theorem dX11_type_35 : decode cX11_type 35 = .ok (.iload 6, 2) := by decide +kernel
theorem dX11_type_37 : decode cX11_type 37 = .ok (.iadd, 1) := by decide +kernel
theorem dX11_type_38 : decode cX11_type 38 = .ok (.bipush 80, 2) := by decide +kernel
theorem dX11_type_40 : decode cX11_type 40 = .ok (.if_icmp .le 11, 3) := by decide +kernel
theorem dX11_type_43 : decode cX11_type 43 = .ok (.new 83, 3) := by decide +kernel
theorem dX11_type_46 : decode cX11_type 46 = .ok (.dup, 1) := by decide +kernel
theorem dX11_type_47 : decode cX11_type 47 = .ok (.invokespecial 85, 3) := by decide +kernel
theorem dX11_type_50 : decode cX11_type 50 = .ok (.athrow, 1) := by decide +kernel
theorem dX11_type_51 : decode cX11_type 51 = .ok (.aload_n 0, 1) := by decide +kernel
theorem dX11_type_52 : decode cX11_type 52 = .ok (.iload_n 1, 1) := by decide +kernel
theorem dX11_type_53 : decode cX11_type 53 = .ok (.invokevirtual 86, 3) := by decide +kernel
theorem dX11_type_56 : decode cX11_type 56 = .ok (.aload_n 0, 1) := by decide +kernel
theorem dX11_type_57 : decode cX11_type 57 = .ok (.iload_n 2, 1) := by decide +kernel
theorem dX11_type_58 : decode cX11_type 58 = .ok (.invokevirtual 86, 3) := by decide +kernel
theorem dX11_type_61 : decode cX11_type 61 = .ok (.aload_n 0, 1) := by decide +kernel
theorem dX11_type_62 : decode cX11_type 62 = .ok (.iload_n 3, 1) := by decide +kernel
theorem dX11_type_63 : decode cX11_type 63 = .ok (.invokevirtual 86, 3) := by decide +kernel
theorem dX11_type_66 : decode cX11_type 66 = .ok (.aload_n 0, 1) := by decide +kernel
theorem dX11_type_67 : decode cX11_type 67 = .ok (.iload 4, 2) := by decide +kernel
theorem dX11_type_69 : decode cX11_type 69 = .ok (.invokevirtual 86, 3) := by decide +kernel
theorem dX11_type_72 : decode cX11_type 72 = .ok (.aload_n 0, 1) := by decide +kernel
theorem dX11_type_73 : decode cX11_type 73 = .ok (.iload 5, 2) := by decide +kernel
theorem dX11_type_75 : decode cX11_type 75 = .ok (.invokevirtual 86, 3) := by decide +kernel
theorem dX11_type_78 : decode cX11_type 78 = .ok (.aload_n 0, 1) := by decide +kernel
theorem dX11_type_79 : decode cX11_type 79 = .ok (.getfield 17, 3) := by decide +kernel
theorem dX11_type_82 : decode cX11_type 82 = .ok (.invokevirtual 79, 3) := by decide +kernel
theorem dX11_type_85 : decode cX11_type 85 = .ok (.ireturn, 1) := by decide +kernel
theorem dX11_erase_0 : decode cX11_erase 0 = .ok (.aload_n 0, 1) := by decide +kernel
theorem dX11_erase_1 : decode cX11_erase 1 = .ok (.getfield 17, 3) := by decide +kernel
theorem dX11_erase_4 : decode cX11_erase 4 = .ok (.invokevirtual 79, 3) := by decide +kernel
theorem dX11_erase_7 : decode cX11_erase 7 = .ok (.istore_n 1, 1) := by decide +kernel
theorem dX11_erase_8 : decode cX11_erase 8 = .ok (.aload_n 0, 1) := by decide +kernel
theorem dX11_erase_9 : decode cX11_erase 9 = .ok (.getfield 17, 3) := by decide +kernel
theorem dX11_erase_12 : decode cX11_erase 12 = .ok (.invokevirtual 89, 3) := by decide +kernel
theorem dX11_erase_15 : decode cX11_erase 15 = .ok (.iload_n 1, 1) := by decide +kernel
theorem dX11_erase_16 : decode cX11_erase 16 = .ok (.ireturn, 1) := by decide +kernel
theorem dX11_number_0 : decode cX11_number 0 = .ok (.aload_n 0, 1) := by decide +kernel
theorem dX11_number_1 : decode cX11_number 1 = .ok (.getfield 30, 3) := by decide +kernel
theorem dX11_number_4 : decode cX11_number 4 = .ok (.invokevirtual 92, 3) := by decide +kernel
theorem dX11_number_7 : decode cX11_number 7 = .ok (.bipush 8, 2) := by decide +kernel
theorem dX11_number_9 : decode cX11_number 9 = .ok (.if_icmp .lt 11, 3) := by decide +kernel
theorem dX11_number_12 : decode cX11_number 12 = .ok (.new 83, 3) := by decide +kernel
theorem dX11_number_15 : decode cX11_number 15 = .ok (.dup, 1) := by decide +kernel
theorem dX11_number_16 : decode cX11_number 16 = .ok (.invokespecial 85, 3) := by decide +kernel
theorem dX11_number_19 : decode cX11_number 19 = .ok (.athrow, 1) := by decide +kernel
theorem dX11_number_20 : decode cX11_number 20 = .ok (.aload_n 0, 1) := by decide +kernel
theorem dX11_number_21 : decode cX11_number 21 = .ok (.getfield 30, 3) := by decide +kernel
theorem dX11_number_24 : decode cX11_number 24 = .ok (.lload_n 1, 1) := by decide +kernel
theorem dX11_number_25 : decode cX11_number 25 = .ok (.invokevirtual 95, 3) := by decide +kernel
theorem dX11_number_28 : decode cX11_number 28 = .ok (.aload_n 0, 1) := by decide +kernel
theorem dX11_number_29 : decode cX11_number 29 = .ok (.getfield 30, 3) := by decide +kernel
theorem dX11_number_32 : decode cX11_number 32 = .ok (.invokevirtual 92, 3) := by decide +kernel
theorem dX11_number_35 : decode cX11_number 35 = .ok (.ireturn, 1) := by decide +kernel
theorem dX11_text_0 : decode cX11_text 0 = .ok (.aload_n 0, 1) := by decide +kernel
theorem dX11_text_1 : decode cX11_text 1 = .ok (.getfield 30, 3) := by decide +kernel
theorem dX11_text_4 : decode cX11_text 4 = .ok (.invokevirtual 92, 3) := by decide +kernel
theorem dX11_text_7 : decode cX11_text 7 = .ok (.bipush 8, 2) := by decide +kernel
theorem dX11_text_9 : decode cX11_text 9 = .ok (.if_icmp .lt 11, 3) := by decide +kernel
theorem dX11_text_12 : decode cX11_text 12 = .ok (.new 83, 3) := by decide +kernel
theorem dX11_text_15 : decode cX11_text 15 = .ok (.dup, 1) := by decide +kernel
theorem dX11_text_16 : decode cX11_text 16 = .ok (.invokespecial 85, 3) := by decide +kernel
theorem dX11_text_19 : decode cX11_text 19 = .ok (.athrow, 1) := by decide +kernel
theorem dX11_text_20 : decode cX11_text 20 = .ok (.aload_n 0, 1) := by decide +kernel
theorem dX11_text_21 : decode cX11_text 21 = .ok (.getfield 30, 3) := by decide +kernel
theorem dX11_text_24 : decode cX11_text 24 = .ok (.aload_n 0, 1) := by decide +kernel
theorem dX11_text_25 : decode cX11_text 25 = .ok (.getfield 17, 3) := by decide +kernel
theorem dX11_text_28 : decode cX11_text 28 = .ok (.invokevirtual 99, 3) := by decide +kernel
theorem dX11_text_31 : decode cX11_text 31 = .ok (.aload_n 0, 1) := by decide +kernel
theorem dX11_text_32 : decode cX11_text 32 = .ok (.getfield 17, 3) := by decide +kernel
theorem dX11_text_35 : decode cX11_text 35 = .ok (.invokevirtual 89, 3) := by decide +kernel
theorem dX11_text_38 : decode cX11_text 38 = .ok (.aload_n 0, 1) := by decide +kernel
theorem dX11_text_39 : decode cX11_text 39 = .ok (.getfield 30, 3) := by decide +kernel
theorem dX11_text_42 : decode cX11_text 42 = .ok (.invokevirtual 92, 3) := by decide +kernel
theorem dX11_text_45 : decode cX11_text 45 = .ok (.ireturn, 1) := by decide +kernel
theorem dX11_none_0 : decode cX11_none 0 = .ok (.aload_n 0, 1) := by decide +kernel
theorem dX11_none_1 : decode cX11_none 1 = .ok (.getfield 30, 3) := by decide +kernel
theorem dX11_none_4 : decode cX11_none 4 = .ok (.invokevirtual 92, 3) := by decide +kernel
theorem dX11_none_7 : decode cX11_none 7 = .ok (.istore_n 1, 1) := by decide +kernel
theorem dX11_none_8 : decode cX11_none 8 = .ok (.aload_n 0, 1) := by decide +kernel
theorem dX11_none_9 : decode cX11_none 9 = .ok (.getfield 30, 3) := by decide +kernel
theorem dX11_none_12 : decode cX11_none 12 = .ok (.invokevirtual 102, 3) := by decide +kernel
theorem dX11_none_15 : decode cX11_none 15 = .ok (.iload_n 1, 1) := by decide +kernel
theorem dX11_none_16 : decode cX11_none 16 = .ok (.ireturn, 1) := by decide +kernel
theorem dX11_room_0 : decode cX11_room 0 = .ok (.iload_n 1, 1) := by decide +kernel
theorem dX11_room_1 : decode cX11_room 1 = .ok (.ifCond .lt 10, 3) := by decide +kernel
theorem dX11_room_4 : decode cX11_room 4 = .ok (.iload_n 1, 1) := by decide +kernel
theorem dX11_room_5 : decode cX11_room 5 = .ok (.sipush 2000, 3) := by decide +kernel
theorem dX11_room_8 : decode cX11_room 8 = .ok (.if_icmp .le 11, 3) := by decide +kernel
theorem dX11_room_11 : decode cX11_room 11 = .ok (.new 103, 3) := by decide +kernel
theorem dX11_room_14 : decode cX11_room 14 = .ok (.dup, 1) := by decide +kernel
theorem dX11_room_15 : decode cX11_room 15 = .ok (.invokespecial 105, 3) := by decide +kernel
theorem dX11_room_18 : decode cX11_room 18 = .ok (.athrow, 1) := by decide +kernel
theorem dX11_room_19 : decode cX11_room 19 = .ok (.aload_n 0, 1) := by decide +kernel
theorem dX11_room_20 : decode cX11_room 20 = .ok (.getfield 21, 3) := by decide +kernel
theorem dX11_room_23 : decode cX11_room 23 = .ok (.iload_n 1, 1) := by decide +kernel
theorem dX11_room_24 : decode cX11_room 24 = .ok (.invokevirtual 106, 3) := by decide +kernel
theorem dX11_room_27 : decode cX11_room 27 = .ok (.aload_n 0, 1) := by decide +kernel
theorem dX11_room_28 : decode cX11_room 28 = .ok (.getfield 21, 3) := by decide +kernel
theorem dX11_room_31 : decode cX11_room 31 = .ok (.invokevirtual 89, 3) := by decide +kernel
theorem dX11_room_34 : decode cX11_room 34 = .ok (.return_, 1) := by decide +kernel
theorem dX11_print_0 : decode cX11_print 0 = .ok (.aload_n 0, 1) := by decide +kernel
theorem dX11_print_1 : decode cX11_print 1 = .ok (.aload_n 0, 1) := by decide +kernel
theorem dX11_print_2 : decode cX11_print 2 = .ok (.getfield 39, 3) := by decide +kernel
theorem dX11_print_5 : decode cX11_print 5 = .ok (.aload_n 0, 1) := by decide +kernel
theorem dX11_print_6 : decode cX11_print 6 = .ok (.getfield 17, 3) := by decide +kernel
theorem dX11_print_9 : decode cX11_print 9 = .ok (.invokevirtual 109, 3) := by decide +kernel
theorem dX11_print_12 : decode cX11_print 12 = .ok (.putfield 68, 3) := by decide +kernel
theorem dX11_print_15 : decode cX11_print 15 = .ok (.aload_n 0, 1) := by decide +kernel
theorem dX11_print_16 : decode cX11_print 16 = .ok (.getfield 68, 3) := by decide +kernel
theorem dX11_print_19 : decode cX11_print 19 = .ok (.iconst (-1), 1) := by decide +kernel
theorem dX11_print_20 : decode cX11_print 20 = .ok (.if_icmp .eq 6, 3) := by decide +kernel
theorem dX11_print_23 : decode cX11_print 23 = .ok (.bipush (-2), 2) := by decide +kernel
theorem dX11_print_25 : decode cX11_print 25 = .ok (.ireturn, 1) := by decide +kernel
theorem dX11_print_26 : decode cX11_print 26 = .ok (.aload_n 0, 1) := by decide +kernel
theorem dX11_print_27 : decode cX11_print 27 = .ok (.getfield 39, 3) := by decide +kernel
theorem dX11_print_30 : decode cX11_print 30 = .ok (.invokevirtual 113, 3) := by decide +kernel
theorem dX11_print_33 : decode cX11_print 33 = .ok (.iconst 1, 1) := by decide +kernel
theorem dX11_print_34 : decode cX11_print 34 = .ok (.istore_n 1, 1) := by decide +kernel
theorem dX11_print_35 : decode cX11_print 35 = .ok (.iconst 0, 1) := by decide +kernel
theorem dX11_print_36 : decode cX11_print 36 = .ok (.istore_n 2, 1) := by decide +kernel
theorem dX11_print_37 : decode cX11_print 37 = .ok (.iload_n 2, 1) := by decide +kernel
theorem dX11_print_38 : decode cX11_print 38 = .ok (.bipush 8, 2) := by decide +kernel
theorem dX11_print_40 : decode cX11_print 40 = .ok (.if_icmp .gt 88, 3) := by decide +kernel
theorem dX11_print_43 : decode cX11_print 43 = .ok (.iload_n 1, 1) := by decide +kernel
theorem dX11_print_44 : decode cX11_print 44 = .ok (.ifCond .eq 84, 3) := by decide +kernel
theorem dX11_print_47 : decode cX11_print 47 = .ok (.aload_n 0, 1) := by decide +kernel
theorem dX11_print_48 : decode cX11_print 48 = .ok (.getfield 30, 3) := by decide +kernel
theorem dX11_print_51 : decode cX11_print 51 = .ok (.invokevirtual 116, 3) := by decide +kernel
theorem dX11_print_54 : decode cX11_print 54 = .ok (.istore_n 3, 1) := by decide +kernel
theorem dX11_print_55 : decode cX11_print 55 = .ok (.aload_n 0, 1) := by decide +kernel
theorem dX11_print_56 : decode cX11_print 56 = .ok (.getfield 39, 3) := by decide +kernel
theorem dX11_print_59 : decode cX11_print 59 = .ok (.aload_n 0, 1) := by decide +kernel
theorem dX11_print_60 : decode cX11_print 60 = .ok (.getfield 17, 3) := by decide +kernel
theorem dX11_print_63 : decode cX11_print 63 = .ok (.invokevirtual 119, 3) := by decide +kernel
theorem dX11_print_66 : decode cX11_print 66 = .ok (.aload_n 0, 1) := by decide +kernel
theorem dX11_print_67 : decode cX11_print 67 = .ok (.getfield 30, 3) := by decide +kernel
theorem dX11_print_70 : decode cX11_print 70 = .ok (.invokevirtual 116, 3) := by decide +kernel
theorem dX11_print_73 : decode cX11_print 73 = .ok (.iload_n 3, 1) := by decide +kernel
theorem dX11_print_74 : decode cX11_print 74 = .ok (.if_icmp .le 7, 3) := by decide +kernel
theorem dX11_print_77 : decode cX11_print 77 = .ok (.iconst 1, 1) := by decide +kernel
theorem dX11_print_78 : decode cX11_print 78 = .ok (.goto 4, 3) := by decide +kernel
theorem dX11_print_81 : decode cX11_print 81 = .ok (.iconst 0, 1) := by decide +kernel
theorem dX11_print_82 : decode cX11_print 82 = .ok (.istore 4, 2) := by decide +kernel
theorem dX11_print_84 : decode cX11_print 84 = .ok (.iload 4, 2) := by decide +kernel
theorem dX11_print_86 : decode cX11_print 86 = .ok (.ifCond .eq 34, 3) := by decide +kernel
theorem dX11_print_89 : decode cX11_print 89 = .ok (.aload_n 0, 1) := by decide +kernel
theorem dX11_print_90 : decode cX11_print 90 = .ok (.getfield 30, 3) := by decide +kernel
theorem dX11_print_93 : decode cX11_print 93 = .ok (.invokevirtual 116, 3) := by decide +kernel
theorem dX11_print_96 : decode cX11_print 96 = .ok (.aload_n 0, 1) := by decide +kernel
theorem dX11_print_97 : decode cX11_print 97 = .ok (.getfield 30, 3) := by decide +kernel
theorem dX11_print_100 : decode cX11_print 100 = .ok (.invokevirtual 92, 3) := by decide +kernel
theorem dX11_print_103 : decode cX11_print 103 = .ok (.if_icmp .ge 17, 3) := by decide +kernel
theorem dX11_print_106 : decode cX11_print 106 = .ok (.aload_n 0, 1) := by decide +kernel
theorem dX11_print_107 : decode cX11_print 107 = .ok (.getfield 39, 3) := by decide +kernel
theorem dX11_print_110 : decode cX11_print 110 = .ok (.invokevirtual 122, 3) := by decide +kernel
theorem dX11_print_113 : decode cX11_print 113 = .ok (.ifCond .ne 7, 3) := by decide +kernel
theorem dX11_print_116 : decode cX11_print 116 = .ok (.iconst 1, 1) := by decide +kernel
theorem dX11_print_117 : decode cX11_print 117 = .ok (.goto 4, 3) := by decide +kernel
theorem dX11_print_120 : decode cX11_print 120 = .ok (.iconst 0, 1) := by decide +kernel
theorem dX11_print_121 : decode cX11_print 121 = .ok (.istore_n 1, 1) := by decide +kernel
theorem dX11_print_122 : decode cX11_print 122 = .ok (.iinc 2 1, 3) := by decide +kernel
theorem dX11_print_125 : decode cX11_print 125 = .ok (.goto (-88), 3) := by decide +kernel
theorem dX11_print_128 : decode cX11_print 128 = .ok (.aload_n 0, 1) := by decide +kernel
theorem dX11_print_129 : decode cX11_print 129 = .ok (.invokevirtual 126, 3) := by decide +kernel
theorem dX11_print_132 : decode cX11_print 132 = .ok (.istore_n 2, 1) := by decide +kernel
theorem dX11_print_133 : decode cX11_print 133 = .ok (.iload_n 2, 1) := by decide +kernel
theorem dX11_print_134 : decode cX11_print 134 = .ok (.bipush (-3), 2) := by decide +kernel
theorem dX11_print_136 : decode cX11_print 136 = .ok (.if_icmp .eq 14, 3) := by decide +kernel
theorem dX11_print_139 : decode cX11_print 139 = .ok (.aload_n 0, 1) := by decide +kernel
theorem dX11_print_140 : decode cX11_print 140 = .ok (.aload_n 0, 1) := by decide +kernel
theorem dX11_print_141 : decode cX11_print 141 = .ok (.getfield 30, 3) := by decide +kernel
theorem dX11_print_144 : decode cX11_print 144 = .ok (.invokevirtual 129, 3) := by decide +kernel
theorem dX11_print_147 : decode cX11_print 147 = .ok (.putfield 72, 3) := by decide +kernel
theorem dX11_print_150 : decode cX11_print 150 = .ok (.iload_n 2, 1) := by decide +kernel
theorem dX11_print_151 : decode cX11_print 151 = .ok (.ireturn, 1) := by decide +kernel
theorem dX11_odd_0 : decode cX11_odd 0 = .ok (.aload_n 0, 1) := by decide +kernel
theorem dX11_odd_1 : decode cX11_odd 1 = .ok (.getfield 72, 3) := by decide +kernel
theorem dX11_odd_4 : decode cX11_odd 4 = .ok (.ireturn, 1) := by decide +kernel
theorem dX11_feed_0 : decode cX11_feed 0 = .ok (.iload_n 1, 1) := by decide +kernel
theorem dX11_feed_1 : decode cX11_feed 1 = .ok (.ifCond .lt 9, 3) := by decide +kernel
theorem dX11_feed_4 : decode cX11_feed 4 = .ok (.iload_n 1, 1) := by decide +kernel
theorem dX11_feed_5 : decode cX11_feed 5 = .ok (.bipush 16, 2) := by decide +kernel
theorem dX11_feed_7 : decode cX11_feed 7 = .ok (.if_icmp .le 11, 3) := by decide +kernel
theorem dX11_feed_10 : decode cX11_feed 10 = .ok (.new 103, 3) := by decide +kernel
theorem dX11_feed_13 : decode cX11_feed 13 = .ok (.dup, 1) := by decide +kernel
theorem dX11_feed_14 : decode cX11_feed 14 = .ok (.invokespecial 105, 3) := by decide +kernel
theorem dX11_feed_17 : decode cX11_feed 17 = .ok (.athrow, 1) := by decide +kernel
theorem dX11_feed_18 : decode cX11_feed 18 = .ok (.aload_n 0, 1) := by decide +kernel
theorem dX11_feed_19 : decode cX11_feed 19 = .ok (.getfield 24, 3) := by decide +kernel
theorem dX11_feed_22 : decode cX11_feed 22 = .ok (.invokevirtual 79, 3) := by decide +kernel
theorem dX11_feed_25 : decode cX11_feed 25 = .ok (.iload_n 1, 1) := by decide +kernel
theorem dX11_feed_26 : decode cX11_feed 26 = .ok (.iadd, 1) := by decide +kernel
theorem dX11_feed_27 : decode cX11_feed 27 = .ok (.sipush 256, 3) := by decide +kernel
theorem dX11_feed_30 : decode cX11_feed 30 = .ok (.if_icmp .le 11, 3) := by decide +kernel
theorem dX11_feed_33 : decode cX11_feed 33 = .ok (.new 83, 3) := by decide +kernel
theorem dX11_feed_36 : decode cX11_feed 36 = .ok (.dup, 1) := by decide +kernel
theorem dX11_feed_37 : decode cX11_feed 37 = .ok (.invokespecial 85, 3) := by decide +kernel
theorem dX11_feed_40 : decode cX11_feed 40 = .ok (.athrow, 1) := by decide +kernel
theorem dX11_feed_41 : decode cX11_feed 41 = .ok (.aload_n 0, 1) := by decide +kernel
theorem dX11_feed_42 : decode cX11_feed 42 = .ok (.iload_n 2, 1) := by decide +kernel
theorem dX11_feed_43 : decode cX11_feed 43 = .ok (.iload_n 1, 1) := by decide +kernel
theorem dX11_feed_44 : decode cX11_feed 44 = .ok (.invokevirtual 131, 3) := by decide +kernel
theorem dX11_feed_47 : decode cX11_feed 47 = .ok (.aload_n 0, 1) := by decide +kernel
theorem dX11_feed_48 : decode cX11_feed 48 = .ok (.iload_n 3, 1) := by decide +kernel
theorem dX11_feed_49 : decode cX11_feed 49 = .ok (.iload_n 1, 1) := by decide +kernel
theorem dX11_feed_50 : decode cX11_feed 50 = .ok (.iconst 4, 1) := by decide +kernel
theorem dX11_feed_51 : decode cX11_feed 51 = .ok (.isub, 1) := by decide +kernel
theorem dX11_feed_52 : decode cX11_feed 52 = .ok (.invokevirtual 131, 3) := by decide +kernel
theorem dX11_feed_55 : decode cX11_feed 55 = .ok (.aload_n 0, 1) := by decide +kernel
theorem dX11_feed_56 : decode cX11_feed 56 = .ok (.iload 4, 2) := by decide +kernel
theorem dX11_feed_58 : decode cX11_feed 58 = .ok (.iload_n 1, 1) := by decide +kernel
theorem dX11_feed_59 : decode cX11_feed 59 = .ok (.bipush 8, 2) := by decide +kernel
theorem dX11_feed_61 : decode cX11_feed 61 = .ok (.isub, 1) := by decide +kernel
theorem dX11_feed_62 : decode cX11_feed 62 = .ok (.invokevirtual 131, 3) := by decide +kernel
theorem dX11_feed_65 : decode cX11_feed 65 = .ok (.aload_n 0, 1) := by decide +kernel
theorem dX11_feed_66 : decode cX11_feed 66 = .ok (.iload 5, 2) := by decide +kernel
theorem dX11_feed_68 : decode cX11_feed 68 = .ok (.iload_n 1, 1) := by decide +kernel
theorem dX11_feed_69 : decode cX11_feed 69 = .ok (.bipush 12, 2) := by decide +kernel
theorem dX11_feed_71 : decode cX11_feed 71 = .ok (.isub, 1) := by decide +kernel
theorem dX11_feed_72 : decode cX11_feed 72 = .ok (.invokevirtual 131, 3) := by decide +kernel
theorem dX11_feed_75 : decode cX11_feed 75 = .ok (.aload_n 0, 1) := by decide +kernel
theorem dX11_feed_76 : decode cX11_feed 76 = .ok (.getfield 24, 3) := by decide +kernel
theorem dX11_feed_79 : decode cX11_feed 79 = .ok (.invokevirtual 79, 3) := by decide +kernel
theorem dX11_feed_82 : decode cX11_feed 82 = .ok (.ireturn, 1) := by decide +kernel
theorem dX11_cut_0 : decode cX11_cut 0 = .ok (.iload_n 1, 1) := by decide +kernel
theorem dX11_cut_1 : decode cX11_cut 1 = .ok (.ifCond .lt 14, 3) := by decide +kernel
theorem dX11_cut_4 : decode cX11_cut 4 = .ok (.iload_n 1, 1) := by decide +kernel
theorem dX11_cut_5 : decode cX11_cut 5 = .ok (.aload_n 0, 1) := by decide +kernel
theorem dX11_cut_6 : decode cX11_cut 6 = .ok (.getfield 24, 3) := by decide +kernel
theorem dX11_cut_9 : decode cX11_cut 9 = .ok (.invokevirtual 79, 3) := by decide +kernel
theorem dX11_cut_12 : decode cX11_cut 12 = .ok (.if_icmp .le 11, 3) := by decide +kernel
theorem dX11_cut_15 : decode cX11_cut 15 = .ok (.new 103, 3) := by decide +kernel
theorem dX11_cut_18 : decode cX11_cut 18 = .ok (.dup, 1) := by decide +kernel
theorem dX11_cut_19 : decode cX11_cut 19 = .ok (.invokespecial 105, 3) := by decide +kernel
theorem dX11_cut_22 : decode cX11_cut 22 = .ok (.athrow, 1) := by decide +kernel
theorem dX11_cut_23 : decode cX11_cut 23 = .ok (.aload_n 0, 1) := by decide +kernel
theorem dX11_cut_24 : decode cX11_cut 24 = .ok (.getfield 24, 3) := by decide +kernel
theorem dX11_cut_27 : decode cX11_cut 27 = .ok (.iload_n 1, 1) := by decide +kernel
theorem dX11_cut_28 : decode cX11_cut 28 = .ok (.invokevirtual 135, 3) := by decide +kernel
theorem dX11_cut_31 : decode cX11_cut 31 = .ok (.ireturn, 1) := by decide +kernel
theorem dX11_words_0 : decode cX11_words 0 = .ok (.iload_n 1, 1) := by decide +kernel
theorem dX11_words_1 : decode cX11_words 1 = .ok (.invokestatic 138, 3) := by decide +kernel
theorem dX11_words_4 : decode cX11_words 4 = .ok (.ifCond .eq 11, 3) := by decide +kernel
theorem dX11_words_7 : decode cX11_words 7 = .ok (.iload_n 2, 1) := by decide +kernel
theorem dX11_words_8 : decode cX11_words 8 = .ok (.iload_n 3, 1) := by decide +kernel
theorem dX11_words_9 : decode cX11_words 9 = .ok (.invokestatic 142, 3) := by decide +kernel
theorem dX11_words_12 : decode cX11_words 12 = .ok (.ifCond .ne 11, 3) := by decide +kernel
theorem dX11_words_15 : decode cX11_words 15 = .ok (.new 103, 3) := by decide +kernel
theorem dX11_words_18 : decode cX11_words 18 = .ok (.dup, 1) := by decide +kernel
theorem dX11_words_19 : decode cX11_words 19 = .ok (.invokespecial 105, 3) := by decide +kernel
theorem dX11_words_22 : decode cX11_words 22 = .ok (.athrow, 1) := by decide +kernel
theorem dX11_words_23 : decode cX11_words 23 = .ok (.aload_n 0, 1) := by decide +kernel
theorem dX11_words_24 : decode cX11_words 24 = .ok (.getfield 21, 3) := by decide +kernel
theorem dX11_words_27 : decode cX11_words 27 = .ok (.invokevirtual 89, 3) := by decide +kernel
theorem dX11_words_30 : decode cX11_words 30 = .ok (.aload_n 0, 1) := by decide +kernel
theorem dX11_words_31 : decode cX11_words 31 = .ok (.getfield 48, 3) := by decide +kernel
theorem dX11_words_34 : decode cX11_words 34 = .ok (.iload_n 1, 1) := by decide +kernel
theorem dX11_words_35 : decode cX11_words 35 = .ok (.iload_n 2, 1) := by decide +kernel
theorem dX11_words_36 : decode cX11_words 36 = .ok (.iload_n 3, 1) := by decide +kernel
theorem dX11_words_37 : decode cX11_words 37 = .ok (.iload 4, 2) := by decide +kernel
theorem dX11_words_39 : decode cX11_words 39 = .ok (.invokevirtual 146, 3) := by decide +kernel
theorem dX11_words_42 : decode cX11_words 42 = .ok (.aload_n 0, 1) := by decide +kernel
theorem dX11_words_43 : decode cX11_words 43 = .ok (.invokevirtual 126, 3) := by decide +kernel
theorem dX11_words_46 : decode cX11_words 46 = .ok (.ireturn, 1) := by decide +kernel
theorem dX11_pairs_0 : decode cX11_pairs 0 = .ok (.iload_n 1, 1) := by decide +kernel
theorem dX11_pairs_1 : decode cX11_pairs 1 = .ok (.iload_n 2, 1) := by decide +kernel
theorem dX11_pairs_2 : decode cX11_pairs 2 = .ok (.invokestatic 150, 3) := by decide +kernel
theorem dX11_pairs_5 : decode cX11_pairs 5 = .ok (.ifCond .ne 11, 3) := by decide +kernel
theorem dX11_pairs_8 : decode cX11_pairs 8 = .ok (.new 103, 3) := by decide +kernel
theorem dX11_pairs_11 : decode cX11_pairs 11 = .ok (.dup, 1) := by decide +kernel
theorem dX11_pairs_12 : decode cX11_pairs 12 = .ok (.invokespecial 105, 3) := by decide +kernel
theorem dX11_pairs_15 : decode cX11_pairs 15 = .ok (.athrow, 1) := by decide +kernel
theorem dX11_pairs_16 : decode cX11_pairs 16 = .ok (.aload_n 0, 1) := by decide +kernel
theorem dX11_pairs_17 : decode cX11_pairs 17 = .ok (.getfield 21, 3) := by decide +kernel
theorem dX11_pairs_20 : decode cX11_pairs 20 = .ok (.invokevirtual 89, 3) := by decide +kernel
theorem dX11_pairs_23 : decode cX11_pairs 23 = .ok (.aload_n 0, 1) := by decide +kernel
theorem dX11_pairs_24 : decode cX11_pairs 24 = .ok (.getfield 55, 3) := by decide +kernel
theorem dX11_pairs_27 : decode cX11_pairs 27 = .ok (.iload_n 1, 1) := by decide +kernel
theorem dX11_pairs_28 : decode cX11_pairs 28 = .ok (.iload_n 1, 1) := by decide +kernel
theorem dX11_pairs_29 : decode cX11_pairs 29 = .ok (.iload_n 2, 1) := by decide +kernel
theorem dX11_pairs_30 : decode cX11_pairs 30 = .ok (.invokestatic 154, 3) := by decide +kernel
theorem dX11_pairs_33 : decode cX11_pairs 33 = .ok (.iload_n 3, 1) := by decide +kernel
theorem dX11_pairs_34 : decode cX11_pairs 34 = .ok (.invokevirtual 158, 3) := by decide +kernel
theorem dX11_pairs_37 : decode cX11_pairs 37 = .ok (.aload_n 0, 1) := by decide +kernel
theorem dX11_pairs_38 : decode cX11_pairs 38 = .ok (.invokevirtual 126, 3) := by decide +kernel
theorem dX11_pairs_41 : decode cX11_pairs 41 = .ok (.ireturn, 1) := by decide +kernel
theorem dX11_back_0 : decode cX11_back 0 = .ok (.iload_n 1, 1) := by decide +kernel
theorem dX11_back_1 : decode cX11_back 1 = .ok (.iload_n 2, 1) := by decide +kernel
theorem dX11_back_2 : decode cX11_back 2 = .ok (.invokestatic 150, 3) := by decide +kernel
theorem dX11_back_5 : decode cX11_back 5 = .ok (.ifCond .ne 11, 3) := by decide +kernel
theorem dX11_back_8 : decode cX11_back 8 = .ok (.new 103, 3) := by decide +kernel
theorem dX11_back_11 : decode cX11_back 11 = .ok (.dup, 1) := by decide +kernel
theorem dX11_back_12 : decode cX11_back 12 = .ok (.invokespecial 105, 3) := by decide +kernel
theorem dX11_back_15 : decode cX11_back 15 = .ok (.athrow, 1) := by decide +kernel
theorem dX11_back_16 : decode cX11_back 16 = .ok (.aload_n 0, 1) := by decide +kernel
theorem dX11_back_17 : decode cX11_back 17 = .ok (.getfield 64, 3) := by decide +kernel
theorem dX11_back_20 : decode cX11_back 20 = .ok (.iload_n 1, 1) := by decide +kernel
theorem dX11_back_21 : decode cX11_back 21 = .ok (.iload_n 1, 1) := by decide +kernel
theorem dX11_back_22 : decode cX11_back 22 = .ok (.iload_n 2, 1) := by decide +kernel
theorem dX11_back_23 : decode cX11_back 23 = .ok (.invokestatic 154, 3) := by decide +kernel
theorem dX11_back_26 : decode cX11_back 26 = .ok (.invokevirtual 161, 3) := by decide +kernel
theorem dX11_back_29 : decode cX11_back 29 = .ok (.istore_n 3, 1) := by decide +kernel
theorem dX11_back_30 : decode cX11_back 30 = .ok (.aload_n 0, 1) := by decide +kernel
theorem dX11_back_31 : decode cX11_back 31 = .ok (.iload_n 3, 1) := by decide +kernel
theorem dX11_back_32 : decode cX11_back 32 = .ok (.ifCond .eq 7, 3) := by decide +kernel
theorem dX11_back_35 : decode cX11_back 35 = .ok (.iconst (-1), 1) := by decide +kernel
theorem dX11_back_36 : decode cX11_back 36 = .ok (.goto 10, 3) := by decide +kernel
theorem dX11_back_39 : decode cX11_back 39 = .ok (.aload_n 0, 1) := by decide +kernel
theorem dX11_back_40 : decode cX11_back 40 = .ok (.getfield 64, 3) := by decide +kernel
