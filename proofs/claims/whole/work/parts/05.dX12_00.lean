theorem dX12_init_0 : decode cX12_init 0 = .ok (.aload_n 0, 1) := by decide +kernel
theorem dX12_init_1 : decode cX12_init 1 = .ok (.invokespecial 1, 3) := by decide +kernel
theorem dX12_init_4 : decode cX12_init 4 = .ok (.aload_n 0, 1) := by decide +kernel
theorem dX12_init_5 : decode cX12_init 5 = .ok (.bipush 80, 2) := by decide +kernel
theorem dX12_init_7 : decode cX12_init 7 = .ok (.newarray .char, 2) := by decide +kernel
theorem dX12_init_9 : decode cX12_init 9 = .ok (.putfield 7, 3) := by decide +kernel
theorem dX12_init_12 : decode cX12_init 12 = .ok (.aload_n 0, 1) := by decide +kernel
theorem dX12_init_13 : decode cX12_init 13 = .ok (.bipush 8, 2) := by decide +kernel
theorem dX12_init_15 : decode cX12_init 15 = .ok (.newarray .boolean, 2) := by decide +kernel
theorem dX12_init_17 : decode cX12_init 17 = .ok (.putfield 13, 3) := by decide +kernel
theorem dX12_init_20 : decode cX12_init 20 = .ok (.aload_n 0, 1) := by decide +kernel
theorem dX12_init_21 : decode cX12_init 21 = .ok (.bipush 8, 2) := by decide +kernel
theorem dX12_init_23 : decode cX12_init 23 = .ok (.newarray .long, 2) := by decide +kernel
theorem dX12_init_25 : decode cX12_init 25 = .ok (.putfield 17, 3) := by decide +kernel
theorem dX12_init_28 : decode cX12_init 28 = .ok (.aload_n 0, 1) := by decide +kernel
theorem dX12_init_29 : decode cX12_init 29 = .ok (.bipush 8, 2) := by decide +kernel
theorem dX12_init_31 : decode cX12_init 31 = .ok (.newarray .int, 2) := by decide +kernel
theorem dX12_init_33 : decode cX12_init 33 = .ok (.putfield 21, 3) := by decide +kernel
theorem dX12_init_36 : decode cX12_init 36 = .ok (.aload_n 0, 1) := by decide +kernel
theorem dX12_init_37 : decode cX12_init 37 = .ok (.sipush 640, 3) := by decide +kernel
theorem dX12_init_40 : decode cX12_init 40 = .ok (.newarray .char, 2) := by decide +kernel
theorem dX12_init_42 : decode cX12_init 42 = .ok (.putfield 25, 3) := by decide +kernel
theorem dX12_init_45 : decode cX12_init 45 = .ok (.aload_n 0, 1) := by decide +kernel
theorem dX12_init_46 : decode cX12_init 46 = .ok (.sipush 256, 3) := by decide +kernel
theorem dX12_init_49 : decode cX12_init 49 = .ok (.newarray .int, 2) := by decide +kernel
theorem dX12_init_51 : decode cX12_init 51 = .ok (.putfield 28, 3) := by decide +kernel
theorem dX12_init_54 : decode cX12_init 54 = .ok (.aload_n 0, 1) := by decide +kernel
theorem dX12_init_55 : decode cX12_init 55 = .ok (.sipush 2000, 3) := by decide +kernel
theorem dX12_init_58 : decode cX12_init 58 = .ok (.putfield 31, 3) := by decide +kernel
theorem dX12_init_61 : decode cX12_init 61 = .ok (.aload_n 0, 1) := by decide +kernel
theorem dX12_init_62 : decode cX12_init 62 = .ok (.sipush 2000, 3) := by decide +kernel
theorem dX12_init_65 : decode cX12_init 65 = .ok (.newarray .char, 2) := by decide +kernel
theorem dX12_init_67 : decode cX12_init 67 = .ok (.putfield 35, 3) := by decide +kernel
theorem dX12_init_70 : decode cX12_init 70 = .ok (.aload_n 0, 1) := by decide +kernel
theorem dX12_init_71 : decode cX12_init 71 = .ok (.iconst (-1), 1) := by decide +kernel
theorem dX12_init_72 : decode cX12_init 72 = .ok (.putfield 38, 3) := by decide +kernel
theorem dX12_init_75 : decode cX12_init 75 = .ok (.aload_n 0, 1) := by decide +kernel
theorem dX12_init_76 : decode cX12_init 76 = .ok (.sipush 200, 3) := by decide +kernel
theorem dX12_init_79 : decode cX12_init 79 = .ok (.newarray .char, 2) := by decide +kernel
theorem dX12_init_81 : decode cX12_init 81 = .ok (.putfield 41, 3) := by decide +kernel
theorem dX12_init_84 : decode cX12_init 84 = .ok (.aload_n 0, 1) := by decide +kernel
theorem dX12_init_85 : decode cX12_init 85 = .ok (.sipush 200, 3) := by decide +kernel
theorem dX12_init_88 : decode cX12_init 88 = .ok (.newarray .char, 2) := by decide +kernel
theorem dX12_init_90 : decode cX12_init 90 = .ok (.putfield 44, 3) := by decide +kernel
theorem dX12_init_93 : decode cX12_init 93 = .ok (.aload_n 0, 1) := by decide +kernel
theorem dX12_init_94 : decode cX12_init 94 = .ok (.sipush 2000, 3) := by decide +kernel
theorem dX12_init_97 : decode cX12_init 97 = .ok (.newarray .int, 2) := by decide +kernel
theorem dX12_init_99 : decode cX12_init 99 = .ok (.putfield 47, 3) := by decide +kernel
theorem dX12_init_102 : decode cX12_init 102 = .ok (.return_, 1) := by decide +kernel
theorem dX12_thrown_0 : decode cX12_thrown 0 = .ok (.aload_n 0, 1) := by decide +kernel
theorem dX12_thrown_1 : decode cX12_thrown 1 = .ok (.getfield 50, 3) := by decide +kernel
theorem dX12_thrown_4 : decode cX12_thrown 4 = .ok (.ireturn, 1) := by decide +kernel
theorem dX12_refused_0 : decode cX12_refused 0 = .ok (.aload_n 0, 1) := by decide +kernel
theorem dX12_refused_1 : decode cX12_refused 1 = .ok (.iload_n 1, 1) := by decide +kernel
theorem dX12_refused_2 : decode cX12_refused 2 = .ok (.putfield 50, 3) := by decide +kernel
theorem dX12_refused_5 : decode cX12_refused 5 = .ok (.iload_n 1, 1) := by decide +kernel
theorem dX12_refused_6 : decode cX12_refused 6 = .ok (.ifCond .le 7, 3) := by decide +kernel
theorem dX12_refused_9 : decode cX12_refused 9 = .ok (.iconst 1, 1) := by decide +kernel
theorem dX12_refused_10 : decode cX12_refused 10 = .ok (.goto 4, 3) := by decide +kernel
theorem dX12_refused_13 : decode cX12_refused 13 = .ok (.iconst 0, 1) := by decide +kernel
theorem dX12_refused_14 : decode cX12_refused 14 = .ok (.ireturn, 1) := by decide +kernel
theorem dX12_isIn_0 : decode cX12_isIn 0 = .ok (.iload_n 0, 1) := by decide +kernel
theorem dX12_isIn_1 : decode cX12_isIn 1 = .ok (.iload_n 1, 1) := by decide +kernel
theorem dX12_isIn_2 : decode cX12_isIn 2 = .ok (.if_icmp .lt 12, 3) := by decide +kernel
theorem dX12_isIn_5 : decode cX12_isIn 5 = .ok (.iload_n 0, 1) := by decide +kernel
theorem dX12_isIn_6 : decode cX12_isIn 6 = .ok (.iload_n 2, 1) := by decide +kernel
theorem dX12_isIn_7 : decode cX12_isIn 7 = .ok (.if_icmp .gt 7, 3) := by decide +kernel
theorem dX12_isIn_10 : decode cX12_isIn 10 = .ok (.iconst 1, 1) := by decide +kernel
theorem dX12_isIn_11 : decode cX12_isIn 11 = .ok (.goto 4, 3) := by decide +kernel
theorem dX12_isIn_14 : decode cX12_isIn 14 = .ok (.iconst 0, 1) := by decide +kernel
theorem dX12_isIn_15 : decode cX12_isIn 15 = .ok (.ireturn, 1) := by decide +kernel
theorem dX12_typed_0 : decode cX12_typed 0 = .ok (.iload_n 2, 1) := by decide +kernel
theorem dX12_typed_1 : decode cX12_typed 1 = .ok (.istore_n 3, 1) := by decide +kernel
theorem dX12_typed_2 : decode cX12_typed 2 = .ok (.bipush 24, 2) := by decide +kernel
theorem dX12_typed_4 : decode cX12_typed 4 = .ok (.istore 4, 2) := by decide +kernel
theorem dX12_typed_6 : decode cX12_typed 6 = .ok (.iload 4, 2) := by decide +kernel
theorem dX12_typed_8 : decode cX12_typed 8 = .ok (.ifCond .lt 42, 3) := by decide +kernel
theorem dX12_typed_11 : decode cX12_typed 11 = .ok (.iload_n 1, 1) := by decide +kernel
theorem dX12_typed_12 : decode cX12_typed 12 = .ok (.iload 4, 2) := by decide +kernel
theorem dX12_typed_14 : decode cX12_typed 14 = .ok (.ishr, 1) := by decide +kernel
theorem dX12_typed_15 : decode cX12_typed 15 = .ok (.sipush 255, 3) := by decide +kernel
theorem dX12_typed_18 : decode cX12_typed 18 = .ok (.iand, 1) := by decide +kernel
theorem dX12_typed_19 : decode cX12_typed 19 = .ok (.istore 5, 2) := by decide +kernel
theorem dX12_typed_21 : decode cX12_typed 21 = .ok (.iload 5, 2) := by decide +kernel
theorem dX12_typed_23 : decode cX12_typed 23 = .ok (.ifCond .eq 21, 3) := by decide +kernel
theorem dX12_typed_26 : decode cX12_typed 26 = .ok (.iload_n 3, 1) := by decide +kernel
theorem dX12_typed_27 : decode cX12_typed 27 = .ok (.bipush 80, 2) := by decide +kernel
theorem dX12_typed_29 : decode cX12_typed 29 = .ok (.if_icmp .ge 12, 3) := by decide +kernel
theorem dX12_typed_32 : decode cX12_typed 32 = .ok (.aload_n 0, 1) := by decide +kernel
theorem dX12_typed_33 : decode cX12_typed 33 = .ok (.getfield 7, 3) := by decide +kernel
theorem dX12_typed_36 : decode cX12_typed 36 = .ok (.iload_n 3, 1) := by decide +kernel
theorem dX12_typed_37 : decode cX12_typed 37 = .ok (.iload 5, 2) := by decide +kernel
theorem dX12_typed_39 : decode cX12_typed 39 = .ok (.i2c, 1) := by decide +kernel
theorem dX12_typed_40 : decode cX12_typed 40 = .ok (.castore, 1) := by decide +kernel
theorem dX12_typed_41 : decode cX12_typed 41 = .ok (.iinc 3 1, 3) := by decide +kernel
theorem dX12_typed_44 : decode cX12_typed 44 = .ok (.iinc 4 (-8), 3) := by decide +kernel
theorem dX12_typed_47 : decode cX12_typed 47 = .ok (.goto (-41), 3) := by decide +kernel
theorem dX12_typed_50 : decode cX12_typed 50 = .ok (.iload_n 3, 1) := by decide +kernel
theorem dX12_typed_51 : decode cX12_typed 51 = .ok (.ireturn, 1) := by decide +kernel
theorem dX12_type_0 : decode cX12_type 0 = .ok (.aload_n 0, 1) := by decide +kernel
theorem dX12_type_1 : decode cX12_type 1 = .ok (.iload_n 1, 1) := by decide +kernel
theorem dX12_type_2 : decode cX12_type 2 = .ok (.aload_n 0, 1) := by decide +kernel
theorem dX12_type_3 : decode cX12_type 3 = .ok (.getfield 53, 3) := by decide +kernel
theorem dX12_type_6 : decode cX12_type 6 = .ok (.invokevirtual 56, 3) := by decide +kernel
theorem dX12_type_9 : decode cX12_type 9 = .ok (.istore 6, 2) := by decide +kernel
theorem dX12_type_11 : decode cX12_type 11 = .ok (.aload_n 0, 1) := by decide +kernel
theorem dX12_type_12 : decode cX12_type 12 = .ok (.iload_n 2, 1) := by decide +kernel
theorem dX12_type_13 : decode cX12_type 13 = .ok (.iload 6, 2) := by decide +kernel
theorem dX12_type_15 : decode cX12_type 15 = .ok (.invokevirtual 56, 3) := by decide +kernel
theorem dX12_type_18 : decode cX12_type 18 = .ok (.istore 6, 2) := by decide +kernel
theorem dX12_type_20 : decode cX12_type 20 = .ok (.aload_n 0, 1) := by decide +kernel
theorem dX12_type_21 : decode cX12_type 21 = .ok (.iload_n 3, 1) := by decide +kernel
theorem dX12_type_22 : decode cX12_type 22 = .ok (.iload 6, 2) := by decide +kernel
theorem dX12_type_24 : decode cX12_type 24 = .ok (.invokevirtual 56, 3) := by decide +kernel
theorem dX12_type_27 : decode cX12_type 27 = .ok (.istore 6, 2) := by decide +kernel
theorem dX12_type_29 : decode cX12_type 29 = .ok (.aload_n 0, 1) := by decide +kernel
theorem dX12_type_30 : decode cX12_type 30 = .ok (.iload 4, 2) := by decide +kernel
theorem dX12_type_32 : decode cX12_type 32 = .ok (.iload 6, 2) := by decide +kernel
theorem dX12_type_34 : decode cX12_type 34 = .ok (.invokevirtual 56, 3) := by decide +kernel
theorem dX12_type_37 : decode cX12_type 37 = .ok (.istore 6, 2) := by decide +kernel
theorem dX12_type_39 : decode cX12_type 39 = .ok (.aload_n 0, 1) := by decide +kernel
theorem dX12_type_40 : decode cX12_type 40 = .ok (.iload 5, 2) := by decide +kernel
theorem dX12_type_42 : decode cX12_type 42 = .ok (.iload 6, 2) := by decide +kernel
theorem dX12_type_44 : decode cX12_type 44 = .ok (.invokevirtual 56, 3) := by decide +kernel
theorem dX12_type_47 : decode cX12_type 47 = .ok (.istore 6, 2) := by decide +kernel
theorem dX12_type_49 : decode cX12_type 49 = .ok (.aload_n 0, 1) := by decide +kernel
theorem dX12_type_50 : decode cX12_type 50 = .ok (.iload 6, 2) := by decide +kernel
theorem dX12_type_52 : decode cX12_type 52 = .ok (.bipush 80, 2) := by decide +kernel
theorem dX12_type_54 : decode cX12_type 54 = .ok (.if_icmp .le 7, 3) := by decide +kernel
theorem dX12_type_57 : decode cX12_type 57 = .ok (.iconst 1, 1) := by decide +kernel
theorem dX12_type_58 : decode cX12_type 58 = .ok (.goto 4, 3) := by decide +kernel
theorem dX12_type_61 : decode cX12_type 61 = .ok (.iconst 0, 1) := by decide +kernel
theorem dX12_type_62 : decode cX12_type 62 = .ok (.invokevirtual 60, 3) := by decide +kernel
theorem dX12_type_65 : decode cX12_type 65 = .ok (.ifCond .eq 5, 3) := by decide +kernel
theorem dX12_type_68 : decode cX12_type 68 = .ok (.iconst 0, 1) := by decide +kernel
theorem dX12_type_69 : decode cX12_type 69 = .ok (.ireturn, 1) := by decide +kernel
theorem dX12_type_70 : decode cX12_type 70 = .ok (.aload_n 0, 1) := by decide +kernel
theorem dX12_type_71 : decode cX12_type 71 = .ok (.iload 6, 2) := by decide +kernel
theorem dX12_type_73 : decode cX12_type 73 = .ok (.putfield 53, 3) := by decide +kernel
theorem dX12_type_76 : decode cX12_type 76 = .ok (.iload 6, 2) := by decide +kernel
theorem dX12_type_78 : decode cX12_type 78 = .ok (.ireturn, 1) := by decide +kernel
theorem dX12_erase_0 : decode cX12_erase 0 = .ok (.aload_n 0, 1) := by decide +kernel
theorem dX12_erase_1 : decode cX12_erase 1 = .ok (.iconst 0, 1) := by decide +kernel
theorem dX12_erase_2 : decode cX12_erase 2 = .ok (.putfield 50, 3) := by decide +kernel
theorem dX12_erase_5 : decode cX12_erase 5 = .ok (.aload_n 0, 1) := by decide +kernel
theorem dX12_erase_6 : decode cX12_erase 6 = .ok (.getfield 53, 3) := by decide +kernel
theorem dX12_erase_9 : decode cX12_erase 9 = .ok (.istore_n 1, 1) := by decide +kernel
theorem dX12_erase_10 : decode cX12_erase 10 = .ok (.aload_n 0, 1) := by decide +kernel
theorem dX12_erase_11 : decode cX12_erase 11 = .ok (.iconst 0, 1) := by decide +kernel
theorem dX12_erase_12 : decode cX12_erase 12 = .ok (.putfield 53, 3) := by decide +kernel
theorem dX12_erase_15 : decode cX12_erase 15 = .ok (.iload_n 1, 1) := by decide +kernel
theorem dX12_erase_16 : decode cX12_erase 16 = .ok (.ireturn, 1) := by decide +kernel
theorem dX12_number_0 : decode cX12_number 0 = .ok (.aload_n 0, 1) := by decide +kernel
theorem dX12_number_1 : decode cX12_number 1 = .ok (.aload_n 0, 1) := by decide +kernel
theorem dX12_number_2 : decode cX12_number 2 = .ok (.getfield 64, 3) := by decide +kernel
theorem dX12_number_5 : decode cX12_number 5 = .ok (.bipush 8, 2) := by decide +kernel
theorem dX12_number_7 : decode cX12_number 7 = .ok (.if_icmp .ne 7, 3) := by decide +kernel
theorem dX12_number_10 : decode cX12_number 10 = .ok (.iconst 1, 1) := by decide +kernel
theorem dX12_number_11 : decode cX12_number 11 = .ok (.goto 4, 3) := by decide +kernel
theorem dX12_number_14 : decode cX12_number 14 = .ok (.iconst 0, 1) := by decide +kernel
theorem dX12_number_15 : decode cX12_number 15 = .ok (.invokevirtual 60, 3) := by decide +kernel
theorem dX12_number_18 : decode cX12_number 18 = .ok (.ifCond .eq 5, 3) := by decide +kernel
theorem dX12_number_21 : decode cX12_number 21 = .ok (.iconst 0, 1) := by decide +kernel
theorem dX12_number_22 : decode cX12_number 22 = .ok (.ireturn, 1) := by decide +kernel
theorem dX12_number_23 : decode cX12_number 23 = .ok (.aload_n 0, 1) := by decide +kernel
theorem dX12_number_24 : decode cX12_number 24 = .ok (.getfield 13, 3) := by decide +kernel
theorem dX12_number_27 : decode cX12_number 27 = .ok (.aload_n 0, 1) := by decide +kernel
theorem dX12_number_28 : decode cX12_number 28 = .ok (.getfield 64, 3) := by decide +kernel
theorem dX12_number_31 : decode cX12_number 31 = .ok (.iconst 0, 1) := by decide +kernel
theorem dX12_number_32 : decode cX12_number 32 = .ok (.bastore, 1) := by decide +kernel
theorem dX12_number_33 : decode cX12_number 33 = .ok (.aload_n 0, 1) := by decide +kernel
theorem dX12_number_34 : decode cX12_number 34 = .ok (.getfield 17, 3) := by decide +kernel
theorem dX12_number_37 : decode cX12_number 37 = .ok (.aload_n 0, 1) := by decide +kernel
theorem dX12_number_38 : decode cX12_number 38 = .ok (.getfield 64, 3) := by decide +kernel
theorem dX12_number_41 : decode cX12_number 41 = .ok (.lload_n 1, 1) := by decide +kernel
theorem dX12_number_42 : decode cX12_number 42 = .ok (.lastore, 1) := by decide +kernel
theorem dX12_number_43 : decode cX12_number 43 = .ok (.aload_n 0, 1) := by decide +kernel
theorem dX12_number_44 : decode cX12_number 44 = .ok (.dup, 1) := by decide +kernel
theorem dX12_number_45 : decode cX12_number 45 = .ok (.getfield 64, 3) := by decide +kernel
theorem dX12_number_48 : decode cX12_number 48 = .ok (.iconst 1, 1) := by decide +kernel
theorem dX12_number_49 : decode cX12_number 49 = .ok (.iadd, 1) := by decide +kernel
theorem dX12_number_50 : decode cX12_number 50 = .ok (.putfield 64, 3) := by decide +kernel
theorem dX12_number_53 : decode cX12_number 53 = .ok (.aload_n 0, 1) := by decide +kernel
theorem dX12_number_54 : decode cX12_number 54 = .ok (.getfield 64, 3) := by decide +kernel
theorem dX12_number_57 : decode cX12_number 57 = .ok (.ireturn, 1) := by decide +kernel
theorem dX12_text_0 : decode cX12_text 0 = .ok (.aload_n 0, 1) := by decide +kernel
theorem dX12_text_1 : decode cX12_text 1 = .ok (.aload_n 0, 1) := by decide +kernel
theorem dX12_text_2 : decode cX12_text 2 = .ok (.getfield 64, 3) := by decide +kernel
theorem dX12_text_5 : decode cX12_text 5 = .ok (.bipush 8, 2) := by decide +kernel
theorem dX12_text_7 : decode cX12_text 7 = .ok (.if_icmp .ne 7, 3) := by decide +kernel
theorem dX12_text_10 : decode cX12_text 10 = .ok (.iconst 1, 1) := by decide +kernel
theorem dX12_text_11 : decode cX12_text 11 = .ok (.goto 4, 3) := by decide +kernel
theorem dX12_text_14 : decode cX12_text 14 = .ok (.iconst 0, 1) := by decide +kernel
theorem dX12_text_15 : decode cX12_text 15 = .ok (.invokevirtual 60, 3) := by decide +kernel
theorem dX12_text_18 : decode cX12_text 18 = .ok (.ifCond .eq 5, 3) := by decide +kernel
theorem dX12_text_21 : decode cX12_text 21 = .ok (.iconst 0, 1) := by decide +kernel
theorem dX12_text_22 : decode cX12_text 22 = .ok (.ireturn, 1) := by decide +kernel
theorem dX12_text_23 : decode cX12_text 23 = .ok (.aload_n 0, 1) := by decide +kernel
theorem dX12_text_24 : decode cX12_text 24 = .ok (.getfield 13, 3) := by decide +kernel
theorem dX12_text_27 : decode cX12_text 27 = .ok (.aload_n 0, 1) := by decide +kernel
theorem dX12_text_28 : decode cX12_text 28 = .ok (.getfield 64, 3) := by decide +kernel
theorem dX12_text_31 : decode cX12_text 31 = .ok (.iconst 1, 1) := by decide +kernel
theorem dX12_text_32 : decode cX12_text 32 = .ok (.bastore, 1) := by decide +kernel
theorem dX12_text_33 : decode cX12_text 33 = .ok (.aload_n 0, 1) := by decide +kernel
theorem dX12_text_34 : decode cX12_text 34 = .ok (.getfield 21, 3) := by decide +kernel
theorem dX12_text_37 : decode cX12_text 37 = .ok (.aload_n 0, 1) := by decide +kernel
theorem dX12_text_38 : decode cX12_text 38 = .ok (.getfield 64, 3) := by decide +kernel
theorem dX12_text_41 : decode cX12_text 41 = .ok (.aload_n 0, 1) := by decide +kernel
theorem dX12_text_42 : decode cX12_text 42 = .ok (.getfield 53, 3) := by decide +kernel
theorem dX12_text_45 : decode cX12_text 45 = .ok (.iastore, 1) := by decide +kernel
theorem dX12_text_46 : decode cX12_text 46 = .ok (.iconst 0, 1) := by decide +kernel
theorem dX12_text_47 : decode cX12_text 47 = .ok (.istore_n 1, 1) := by decide +kernel
theorem dX12_text_48 : decode cX12_text 48 = .ok (.iload_n 1, 1) := by decide +kernel
theorem dX12_text_49 : decode cX12_text 49 = .ok (.aload_n 0, 1) := by decide +kernel
theorem dX12_text_50 : decode cX12_text 50 = .ok (.getfield 53, 3) := by decide +kernel
theorem dX12_text_53 : decode cX12_text 53 = .ok (.if_icmp .ge 29, 3) := by decide +kernel
theorem dX12_text_56 : decode cX12_text 56 = .ok (.aload_n 0, 1) := by decide +kernel
theorem dX12_text_57 : decode cX12_text 57 = .ok (.getfield 25, 3) := by decide +kernel
theorem dX12_text_60 : decode cX12_text 60 = .ok (.bipush 80, 2) := by decide +kernel
theorem dX12_text_62 : decode cX12_text 62 = .ok (.aload_n 0, 1) := by decide +kernel
theorem dX12_text_63 : decode cX12_text 63 = .ok (.getfield 64, 3) := by decide +kernel
theorem dX12_text_66 : decode cX12_text 66 = .ok (.imul, 1) := by decide +kernel
theorem dX12_text_67 : decode cX12_text 67 = .ok (.iload_n 1, 1) := by decide +kernel
theorem dX12_text_68 : decode cX12_text 68 = .ok (.iadd, 1) := by decide +kernel
theorem dX12_text_69 : decode cX12_text 69 = .ok (.aload_n 0, 1) := by decide +kernel
theorem dX12_text_70 : decode cX12_text 70 = .ok (.getfield 7, 3) := by decide +kernel
theorem dX12_text_73 : decode cX12_text 73 = .ok (.iload_n 1, 1) := by decide +kernel
theorem dX12_text_74 : decode cX12_text 74 = .ok (.caload, 1) := by decide +kernel
theorem dX12_text_75 : decode cX12_text 75 = .ok (.castore, 1) := by decide +kernel
theorem dX12_text_76 : decode cX12_text 76 = .ok (.iinc 1 1, 3) := by decide +kernel
theorem dX12_text_79 : decode cX12_text 79 = .ok (.goto (-31), 3) := by decide +kernel
theorem dX12_text_82 : decode cX12_text 82 = .ok (.aload_n 0, 1) := by decide +kernel
theorem dX12_text_83 : decode cX12_text 83 = .ok (.iconst 0, 1) := by decide +kernel
theorem dX12_text_84 : decode cX12_text 84 = .ok (.putfield 53, 3) := by decide +kernel
theorem dX12_text_87 : decode cX12_text 87 = .ok (.aload_n 0, 1) := by decide +kernel
theorem dX12_text_88 : decode cX12_text 88 = .ok (.dup, 1) := by decide +kernel
theorem dX12_text_89 : decode cX12_text 89 = .ok (.getfield 64, 3) := by decide +kernel
theorem dX12_text_92 : decode cX12_text 92 = .ok (.iconst 1, 1) := by decide +kernel
theorem dX12_text_93 : decode cX12_text 93 = .ok (.iadd, 1) := by decide +kernel
theorem dX12_text_94 : decode cX12_text 94 = .ok (.putfield 64, 3) := by decide +kernel
theorem dX12_text_97 : decode cX12_text 97 = .ok (.aload_n 0, 1) := by decide +kernel
theorem dX12_text_98 : decode cX12_text 98 = .ok (.getfield 64, 3) := by decide +kernel
theorem dX12_text_101 : decode cX12_text 101 = .ok (.ireturn, 1) := by decide +kernel
theorem dX12_none_0 : decode cX12_none 0 = .ok (.aload_n 0, 1) := by decide +kernel
theorem dX12_none_1 : decode cX12_none 1 = .ok (.iconst 0, 1) := by decide +kernel
theorem dX12_none_2 : decode cX12_none 2 = .ok (.putfield 50, 3) := by decide +kernel
theorem dX12_none_5 : decode cX12_none 5 = .ok (.aload_n 0, 1) := by decide +kernel
theorem dX12_none_6 : decode cX12_none 6 = .ok (.getfield 64, 3) := by decide +kernel
theorem dX12_none_9 : decode cX12_none 9 = .ok (.istore_n 1, 1) := by decide +kernel
theorem dX12_none_10 : decode cX12_none 10 = .ok (.aload_n 0, 1) := by decide +kernel
theorem dX12_none_11 : decode cX12_none 11 = .ok (.iconst 0, 1) := by decide +kernel
theorem dX12_none_12 : decode cX12_none 12 = .ok (.putfield 64, 3) := by decide +kernel
theorem dX12_none_15 : decode cX12_none 15 = .ok (.iload_n 1, 1) := by decide +kernel
theorem dX12_none_16 : decode cX12_none 16 = .ok (.ireturn, 1) := by decide +kernel
theorem dX12_room_0 : decode cX12_room 0 = .ok (.aload_n 0, 1) := by decide +kernel
theorem dX12_room_1 : decode cX12_room 1 = .ok (.iload_n 1, 1) := by decide +kernel
theorem dX12_room_2 : decode cX12_room 2 = .ok (.iconst 0, 1) := by decide +kernel
theorem dX12_room_3 : decode cX12_room 3 = .ok (.sipush 2000, 3) := by decide +kernel
theorem dX12_room_6 : decode cX12_room 6 = .ok (.invokestatic 67, 3) := by decide +kernel
theorem dX12_room_9 : decode cX12_room 9 = .ok (.ifCond .eq 7, 3) := by decide +kernel
theorem dX12_room_12 : decode cX12_room 12 = .ok (.iconst 0, 1) := by decide +kernel
theorem dX12_room_13 : decode cX12_room 13 = .ok (.goto 4, 3) := by decide +kernel
theorem dX12_room_16 : decode cX12_room 16 = .ok (.iconst 1, 1) := by decide +kernel
theorem dX12_room_17 : decode cX12_room 17 = .ok (.invokevirtual 60, 3) := by decide +kernel
theorem dX12_room_20 : decode cX12_room 20 = .ok (.ifCond .eq 4, 3) := by decide +kernel
theorem dX12_room_23 : decode cX12_room 23 = .ok (.return_, 1) := by decide +kernel
theorem dX12_room_24 : decode cX12_room 24 = .ok (.aload_n 0, 1) := by decide +kernel
theorem dX12_room_25 : decode cX12_room 25 = .ok (.iload_n 1, 1) := by decide +kernel
theorem dX12_room_26 : decode cX12_room 26 = .ok (.putfield 31, 3) := by decide +kernel
theorem dX12_room_29 : decode cX12_room 29 = .ok (.aload_n 0, 1) := by decide +kernel
theorem dX12_room_30 : decode cX12_room 30 = .ok (.iconst 0, 1) := by decide +kernel
theorem dX12_room_31 : decode cX12_room 31 = .ok (.putfield 71, 3) := by decide +kernel
theorem dX12_room_34 : decode cX12_room 34 = .ok (.return_, 1) := by decide +kernel
theorem dX12_put_0 : decode cX12_put 0 = .ok (.aload_n 0, 1) := by decide +kernel
theorem dX12_put_1 : decode cX12_put 1 = .ok (.getfield 71, 3) := by decide +kernel
theorem dX12_put_4 : decode cX12_put 4 = .ok (.aload_n 0, 1) := by decide +kernel
theorem dX12_put_5 : decode cX12_put 5 = .ok (.getfield 31, 3) := by decide +kernel
theorem dX12_put_8 : decode cX12_put 8 = .ok (.if_icmp .lt 11, 3) := by decide +kernel
theorem dX12_put_11 : decode cX12_put 11 = .ok (.aload_n 0, 1) := by decide +kernel
theorem dX12_put_12 : decode cX12_put 12 = .ok (.iconst 1, 1) := by decide +kernel
theorem dX12_put_13 : decode cX12_put 13 = .ok (.putfield 74, 3) := by decide +kernel
theorem dX12_put_16 : decode cX12_put 16 = .ok (.goto 24, 3) := by decide +kernel
theorem dX12_put_19 : decode cX12_put 19 = .ok (.aload_n 0, 1) := by decide +kernel
theorem dX12_put_20 : decode cX12_put 20 = .ok (.getfield 35, 3) := by decide +kernel
theorem dX12_put_23 : decode cX12_put 23 = .ok (.aload_n 0, 1) := by decide +kernel
theorem dX12_put_24 : decode cX12_put 24 = .ok (.getfield 71, 3) := by decide +kernel
theorem dX12_put_27 : decode cX12_put 27 = .ok (.iload_n 1, 1) := by decide +kernel
theorem dX12_put_28 : decode cX12_put 28 = .ok (.i2c, 1) := by decide +kernel
theorem dX12_put_29 : decode cX12_put 29 = .ok (.castore, 1) := by decide +kernel
theorem dX12_put_30 : decode cX12_put 30 = .ok (.aload_n 0, 1) := by decide +kernel
theorem dX12_put_31 : decode cX12_put 31 = .ok (.dup, 1) := by decide +kernel
theorem dX12_put_32 : decode cX12_put 32 = .ok (.getfield 71, 3) := by decide +kernel
theorem dX12_put_35 : decode cX12_put 35 = .ok (.iconst 1, 1) := by decide +kernel
theorem dX12_put_36 : decode cX12_put 36 = .ok (.iadd, 1) := by decide +kernel
theorem dX12_put_37 : decode cX12_put 37 = .ok (.putfield 71, 3) := by decide +kernel
theorem dX12_put_40 : decode cX12_put 40 = .ok (.return_, 1) := by decide +kernel
theorem dX12_begin_0 : decode cX12_begin 0 = .ok (.aload_n 0, 1) := by decide +kernel
theorem dX12_begin_1 : decode cX12_begin 1 = .ok (.iconst 0, 1) := by decide +kernel
theorem dX12_begin_2 : decode cX12_begin 2 = .ok (.putfield 71, 3) := by decide +kernel
theorem dX12_begin_5 : decode cX12_begin 5 = .ok (.aload_n 0, 1) := by decide +kernel
theorem dX12_begin_6 : decode cX12_begin 6 = .ok (.iconst 0, 1) := by decide +kernel
theorem dX12_begin_7 : decode cX12_begin 7 = .ok (.putfield 74, 3) := by decide +kernel
theorem dX12_begin_10 : decode cX12_begin 10 = .ok (.return_, 1) := by decide +kernel
theorem dX12_end_0 : decode cX12_end 0 = .ok (.aload_n 0, 1) := by decide +kernel
theorem dX12_end_1 : decode cX12_end 1 = .ok (.aload_n 0, 1) := by decide +kernel
theorem dX12_end_2 : decode cX12_end 2 = .ok (.getfield 74, 3) := by decide +kernel
theorem dX12_end_5 : decode cX12_end 5 = .ok (.ifCond .eq 7, 3) := by decide +kernel
theorem dX12_end_8 : decode cX12_end 8 = .ok (.iconst 0, 1) := by decide +kernel
theorem dX12_end_9 : decode cX12_end 9 = .ok (.goto 7, 3) := by decide +kernel
theorem dX12_end_12 : decode cX12_end 12 = .ok (.aload_n 0, 1) := by decide +kernel
theorem dX12_end_13 : decode cX12_end 13 = .ok (.getfield 71, 3) := by decide +kernel
theorem dX12_end_16 : decode cX12_end 16 = .ok (.putfield 71, 3) := by decide +kernel
theorem dX12_end_19 : decode cX12_end 19 = .ok (.aload_n 0, 1) := by decide +kernel
theorem dX12_end_20 : decode cX12_end 20 = .ok (.getfield 74, 3) := by decide +kernel
theorem dX12_end_23 : decode cX12_end 23 = .ok (.ifCond .eq 8, 3) := by decide +kernel
theorem dX12_end_26 : decode cX12_end 26 = .ok (.bipush (-3), 2) := by decide +kernel
theorem dX12_end_28 : decode cX12_end 28 = .ok (.goto 7, 3) := by decide +kernel
theorem dX12_end_31 : decode cX12_end 31 = .ok (.aload_n 0, 1) := by decide +kernel
theorem dX12_end_32 : decode cX12_end 32 = .ok (.getfield 71, 3) := by decide +kernel
theorem dX12_end_35 : decode cX12_end 35 = .ok (.ireturn, 1) := by decide +kernel
theorem dX12_digit_0 : decode cX12_digit 0 = .ok (.iload_n 0, 1) := by decide +kernel
theorem dX12_digit_1 : decode cX12_digit 1 = .ok (.bipush 10, 2) := by decide +kernel
theorem dX12_digit_3 : decode cX12_digit 3 = .ok (.if_icmp .ge 10, 3) := by decide +kernel
theorem dX12_digit_6 : decode cX12_digit 6 = .ok (.bipush 48, 2) := by decide +kernel
theorem dX12_digit_8 : decode cX12_digit 8 = .ok (.iload_n 0, 1) := by decide +kernel
theorem dX12_digit_9 : decode cX12_digit 9 = .ok (.iadd, 1) := by decide +kernel
theorem dX12_digit_10 : decode cX12_digit 10 = .ok (.goto 19, 3) := by decide +kernel
theorem dX12_digit_13 : decode cX12_digit 13 = .ok (.iload_n 1, 1) := by decide +kernel
theorem dX12_digit_14 : decode cX12_digit 14 = .ok (.ifCond .eq 8, 3) := by decide +kernel
theorem dX12_digit_17 : decode cX12_digit 17 = .ok (.bipush 65, 2) := by decide +kernel
theorem dX12_digit_19 : decode cX12_digit 19 = .ok (.goto 5, 3) := by decide +kernel
theorem dX12_digit_22 : decode cX12_digit 22 = .ok (.bipush 97, 2) := by decide +kernel
theorem dX12_digit_24 : decode cX12_digit 24 = .ok (.iload_n 0, 1) := by decide +kernel
theorem dX12_digit_25 : decode cX12_digit 25 = .ok (.iadd, 1) := by decide +kernel
theorem dX12_digit_26 : decode cX12_digit 26 = .ok (.bipush 10, 2) := by decide +kernel
theorem dX12_digit_28 : decode cX12_digit 28 = .ok (.isub, 1) := by decide +kernel
theorem dX12_digit_29 : decode cX12_digit 29 = .ok (.i2c, 1) := by decide +kernel
theorem dX12_digit_30 : decode cX12_digit 30 = .ok (.ireturn, 1) := by decide +kernel
theorem dX12_reckon_0 : decode cX12_reckon 0 = .ok (.aload_n 0, 1) := by decide +kernel
theorem dX12_reckon_1 : decode cX12_reckon 1 = .ok (.iconst 0, 1) := by decide +kernel
theorem dX12_reckon_2 : decode cX12_reckon 2 = .ok (.putfield 78, 3) := by decide +kernel
theorem dX12_reckon_5 : decode cX12_reckon 5 = .ok (.lload_n 1, 1) := by decide +kernel
theorem dX12_reckon_6 : decode cX12_reckon 6 = .ok (.lstore 5, 2) := by decide +kernel
theorem dX12_reckon_8 : decode cX12_reckon 8 = .ok (.lload 5, 2) := by decide +kernel
theorem dX12_reckon_10 : decode cX12_reckon 10 = .ok (.lconst 0, 1) := by decide +kernel
theorem dX12_reckon_11 : decode cX12_reckon 11 = .ok (.lcmp, 1) := by decide +kernel
theorem dX12_reckon_12 : decode cX12_reckon 12 = .ok (.ifCond .eq 79, 3) := by decide +kernel
theorem dX12_reckon_15 : decode cX12_reckon 15 = .ok (.iload_n 3, 1) := by decide +kernel
theorem dX12_reckon_16 : decode cX12_reckon 16 = .ok (.bipush 10, 2) := by decide +kernel
theorem dX12_reckon_18 : decode cX12_reckon 18 = .ok (.if_icmp .ne 14, 3) := by decide +kernel
theorem dX12_reckon_21 : decode cX12_reckon 21 = .ok (.lload 5, 2) := by decide +kernel
theorem dX12_reckon_23 : decode cX12_reckon 23 = .ok (.iconst 1, 1) := by decide +kernel
theorem dX12_reckon_24 : decode cX12_reckon 24 = .ok (.lushr, 1) := by decide +kernel
theorem dX12_reckon_25 : decode cX12_reckon 25 = .ok (.ldc2_w 81, 3) := by decide +kernel
theorem dX12_reckon_28 : decode cX12_reckon 28 = .ok (.ldiv, 1) := by decide +kernel
theorem dX12_reckon_29 : decode cX12_reckon 29 = .ok (.goto 20, 3) := by decide +kernel
theorem dX12_reckon_32 : decode cX12_reckon 32 = .ok (.iload_n 3, 1) := by decide +kernel
theorem dX12_reckon_33 : decode cX12_reckon 33 = .ok (.bipush 8, 2) := by decide +kernel
theorem dX12_reckon_35 : decode cX12_reckon 35 = .ok (.if_icmp .ne 10, 3) := by decide +kernel
theorem dX12_reckon_38 : decode cX12_reckon 38 = .ok (.lload 5, 2) := by decide +kernel
theorem dX12_reckon_40 : decode cX12_reckon 40 = .ok (.iconst 3, 1) := by decide +kernel
theorem dX12_reckon_41 : decode cX12_reckon 41 = .ok (.lushr, 1) := by decide +kernel
theorem dX12_reckon_42 : decode cX12_reckon 42 = .ok (.goto 7, 3) := by decide +kernel
theorem dX12_reckon_45 : decode cX12_reckon 45 = .ok (.lload 5, 2) := by decide +kernel
theorem dX12_reckon_47 : decode cX12_reckon 47 = .ok (.iconst 4, 1) := by decide +kernel
theorem dX12_reckon_48 : decode cX12_reckon 48 = .ok (.lushr, 1) := by decide +kernel
theorem dX12_reckon_49 : decode cX12_reckon 49 = .ok (.lstore 7, 2) := by decide +kernel
theorem dX12_reckon_51 : decode cX12_reckon 51 = .ok (.aload_n 0, 1) := by decide +kernel
theorem dX12_reckon_52 : decode cX12_reckon 52 = .ok (.getfield 44, 3) := by decide +kernel
theorem dX12_reckon_55 : decode cX12_reckon 55 = .ok (.aload_n 0, 1) := by decide +kernel
theorem dX12_reckon_56 : decode cX12_reckon 56 = .ok (.getfield 78, 3) := by decide +kernel
theorem dX12_reckon_59 : decode cX12_reckon 59 = .ok (.lload 5, 2) := by decide +kernel
theorem dX12_reckon_61 : decode cX12_reckon 61 = .ok (.lload 7, 2) := by decide +kernel
theorem dX12_reckon_63 : decode cX12_reckon 63 = .ok (.iload_n 3, 1) := by decide +kernel
theorem dX12_reckon_64 : decode cX12_reckon 64 = .ok (.i2l, 1) := by decide +kernel
theorem dX12_reckon_65 : decode cX12_reckon 65 = .ok (.lmul, 1) := by decide +kernel
theorem dX12_reckon_66 : decode cX12_reckon 66 = .ok (.lsub, 1) := by decide +kernel
theorem dX12_reckon_67 : decode cX12_reckon 67 = .ok (.l2i, 1) := by decide +kernel
theorem dX12_reckon_68 : decode cX12_reckon 68 = .ok (.iload 4, 2) := by decide +kernel
theorem dX12_reckon_70 : decode cX12_reckon 70 = .ok (.invokestatic 83, 3) := by decide +kernel
theorem dX12_reckon_73 : decode cX12_reckon 73 = .ok (.castore, 1) := by decide +kernel
theorem dX12_reckon_74 : decode cX12_reckon 74 = .ok (.aload_n 0, 1) := by decide +kernel
theorem dX12_reckon_75 : decode cX12_reckon 75 = .ok (.dup, 1) := by decide +kernel
theorem dX12_reckon_76 : decode cX12_reckon 76 = .ok (.getfield 78, 3) := by decide +kernel
theorem dX12_reckon_79 : decode cX12_reckon 79 = .ok (.iconst 1, 1) := by decide +kernel
theorem dX12_reckon_80 : decode cX12_reckon 80 = .ok (.iadd, 1) := by decide +kernel
theorem dX12_reckon_81 : decode cX12_reckon 81 = .ok (.putfield 78, 3) := by decide +kernel
theorem dX12_reckon_84 : decode cX12_reckon 84 = .ok (.lload 7, 2) := by decide +kernel
theorem dX12_reckon_86 : decode cX12_reckon 86 = .ok (.lstore 5, 2) := by decide +kernel
theorem dX12_reckon_88 : decode cX12_reckon 88 = .ok (.goto (-80), 3) := by decide +kernel
theorem dX12_reckon_91 : decode cX12_reckon 91 = .ok (.return_, 1) := by decide +kernel
theorem dX12_fill_0 : decode cX12_fill 0 = .ok (.aload_n 0, 1) := by decide +kernel
theorem dX12_fill_1 : decode cX12_fill 1 = .ok (.getfield 78, 3) := by decide +kernel
theorem dX12_fill_4 : decode cX12_fill 4 = .ok (.iload_n 1, 1) := by decide +kernel
theorem dX12_fill_5 : decode cX12_fill 5 = .ok (.if_icmp .ge 27, 3) := by decide +kernel
theorem dX12_fill_8 : decode cX12_fill 8 = .ok (.aload_n 0, 1) := by decide +kernel
theorem dX12_fill_9 : decode cX12_fill 9 = .ok (.getfield 44, 3) := by decide +kernel
theorem dX12_fill_12 : decode cX12_fill 12 = .ok (.aload_n 0, 1) := by decide +kernel
theorem dX12_fill_13 : decode cX12_fill 13 = .ok (.getfield 78, 3) := by decide +kernel
theorem dX12_fill_16 : decode cX12_fill 16 = .ok (.bipush 48, 2) := by decide +kernel
