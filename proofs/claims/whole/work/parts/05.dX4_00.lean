theorem dX4_init_0 : decode cX4_init 0 = .ok (.aload_n 0, 1) := by decide +kernel
theorem dX4_init_1 : decode cX4_init 1 = .ok (.invokespecial 3, 3) := by decide +kernel
theorem dX4_init_4 : decode cX4_init 4 = .ok (.aload_n 0, 1) := by decide +kernel
theorem dX4_init_5 : decode cX4_init 5 = .ok (.bipush 22, 2) := by decide +kernel
theorem dX4_init_7 : decode cX4_init 7 = .ok (.newarray .int, 2) := by decide +kernel
theorem dX4_init_9 : decode cX4_init 9 = .ok (.putfield 9, 3) := by decide +kernel
theorem dX4_init_12 : decode cX4_init 12 = .ok (.aload_n 0, 1) := by decide +kernel
theorem dX4_init_13 : decode cX4_init 13 = .ok (.iconst 0, 1) := by decide +kernel
theorem dX4_init_14 : decode cX4_init 14 = .ok (.putfield 15, 3) := by decide +kernel
theorem dX4_init_17 : decode cX4_init 17 = .ok (.aload_n 0, 1) := by decide +kernel
theorem dX4_init_18 : decode cX4_init 18 = .ok (.iconst 0, 1) := by decide +kernel
theorem dX4_init_19 : decode cX4_init 19 = .ok (.putfield 19, 3) := by decide +kernel
theorem dX4_init_22 : decode cX4_init 22 = .ok (.return_, 1) := by decide +kernel
theorem dX4_take_0 : decode cX4_take 0 = .ok (.iconst 1, 1) := by decide +kernel
theorem dX4_take_1 : decode cX4_take 1 = .ok (.iload_n 3, 1) := by decide +kernel
theorem dX4_take_2 : decode cX4_take 2 = .ok (.iconst 2, 1) := by decide +kernel
theorem dX4_take_3 : decode cX4_take 3 = .ok (.idiv, 1) := by decide +kernel
theorem dX4_take_4 : decode cX4_take 4 = .ok (.invokestatic 23, 3) := by decide +kernel
theorem dX4_take_7 : decode cX4_take 7 = .ok (.istore 5, 2) := by decide +kernel
theorem dX4_take_9 : decode cX4_take 9 = .ok (.lload_n 1, 1) := by decide +kernel
theorem dX4_take_10 : decode cX4_take 10 = .ok (.lstore 6, 2) := by decide +kernel
theorem dX4_take_12 : decode cX4_take 12 = .ok (.aload_n 0, 1) := by decide +kernel
theorem dX4_take_13 : decode cX4_take 13 = .ok (.iconst 0, 1) := by decide +kernel
theorem dX4_take_14 : decode cX4_take 14 = .ok (.putfield 15, 3) := by decide +kernel
theorem dX4_take_17 : decode cX4_take 17 = .ok (.aload_n 0, 1) := by decide +kernel
theorem dX4_take_18 : decode cX4_take 18 = .ok (.iload 4, 2) := by decide +kernel
theorem dX4_take_20 : decode cX4_take 20 = .ok (.putfield 19, 3) := by decide +kernel
theorem dX4_take_23 : decode cX4_take 23 = .ok (.iconst 0, 1) := by decide +kernel
theorem dX4_take_24 : decode cX4_take 24 = .ok (.istore 8, 2) := by decide +kernel
theorem dX4_take_26 : decode cX4_take 26 = .ok (.iload 8, 2) := by decide +kernel
theorem dX4_take_28 : decode cX4_take 28 = .ok (.bipush 22, 2) := by decide +kernel
theorem dX4_take_30 : decode cX4_take 30 = .ok (.if_icmp .ge 54, 3) := by decide +kernel
theorem dX4_take_33 : decode cX4_take 33 = .ok (.lload 6, 2) := by decide +kernel
theorem dX4_take_35 : decode cX4_take 35 = .ok (.lconst 0, 1) := by decide +kernel
theorem dX4_take_36 : decode cX4_take 36 = .ok (.lcmp, 1) := by decide +kernel
theorem dX4_take_37 : decode cX4_take 37 = .ok (.ifCond .eq 47, 3) := by decide +kernel
theorem dX4_take_40 : decode cX4_take 40 = .ok (.lload 6, 2) := by decide +kernel
theorem dX4_take_42 : decode cX4_take 42 = .ok (.iconst 1, 1) := by decide +kernel
theorem dX4_take_43 : decode cX4_take 43 = .ok (.lushr, 1) := by decide +kernel
theorem dX4_take_44 : decode cX4_take 44 = .ok (.iload 5, 2) := by decide +kernel
theorem dX4_take_46 : decode cX4_take 46 = .ok (.i2l, 1) := by decide +kernel
theorem dX4_take_47 : decode cX4_take 47 = .ok (.ldiv, 1) := by decide +kernel
theorem dX4_take_48 : decode cX4_take 48 = .ok (.lstore 9, 2) := by decide +kernel
theorem dX4_take_50 : decode cX4_take 50 = .ok (.aload_n 0, 1) := by decide +kernel
theorem dX4_take_51 : decode cX4_take 51 = .ok (.getfield 9, 3) := by decide +kernel
theorem dX4_take_54 : decode cX4_take 54 = .ok (.iload 8, 2) := by decide +kernel
theorem dX4_take_56 : decode cX4_take 56 = .ok (.lload 6, 2) := by decide +kernel
theorem dX4_take_58 : decode cX4_take 58 = .ok (.lload 9, 2) := by decide +kernel
theorem dX4_take_60 : decode cX4_take 60 = .ok (.iload_n 3, 1) := by decide +kernel
theorem dX4_take_61 : decode cX4_take 61 = .ok (.i2l, 1) := by decide +kernel
theorem dX4_take_62 : decode cX4_take 62 = .ok (.lmul, 1) := by decide +kernel
theorem dX4_take_63 : decode cX4_take 63 = .ok (.lsub, 1) := by decide +kernel
theorem dX4_take_64 : decode cX4_take 64 = .ok (.l2i, 1) := by decide +kernel
theorem dX4_take_65 : decode cX4_take 65 = .ok (.iastore, 1) := by decide +kernel
theorem dX4_take_66 : decode cX4_take 66 = .ok (.aload_n 0, 1) := by decide +kernel
theorem dX4_take_67 : decode cX4_take 67 = .ok (.iload 8, 2) := by decide +kernel
theorem dX4_take_69 : decode cX4_take 69 = .ok (.iconst 1, 1) := by decide +kernel
theorem dX4_take_70 : decode cX4_take 70 = .ok (.iadd, 1) := by decide +kernel
theorem dX4_take_71 : decode cX4_take 71 = .ok (.putfield 15, 3) := by decide +kernel
theorem dX4_take_74 : decode cX4_take 74 = .ok (.lload 9, 2) := by decide +kernel
theorem dX4_take_76 : decode cX4_take 76 = .ok (.lstore 6, 2) := by decide +kernel
theorem dX4_take_78 : decode cX4_take 78 = .ok (.iinc 8 1, 3) := by decide +kernel
theorem dX4_take_81 : decode cX4_take 81 = .ok (.goto (-55), 3) := by decide +kernel
theorem dX4_take_84 : decode cX4_take 84 = .ok (.return_, 1) := by decide +kernel
theorem dX4_size_0 : decode cX4_size 0 = .ok (.aload_n 0, 1) := by decide +kernel
theorem dX4_size_1 : decode cX4_size 1 = .ok (.getfield 15, 3) := by decide +kernel
theorem dX4_size_4 : decode cX4_size 4 = .ok (.ireturn, 1) := by decide +kernel
theorem dX4_writeTo_0 : decode cX4_writeTo 0 = .ok (.iload_n 2, 1) := by decide +kernel
theorem dX4_writeTo_1 : decode cX4_writeTo 1 = .ok (.aload_n 0, 1) := by decide +kernel
theorem dX4_writeTo_2 : decode cX4_writeTo 2 = .ok (.getfield 15, 3) := by decide +kernel
theorem dX4_writeTo_5 : decode cX4_writeTo 5 = .ok (.invokestatic 23, 3) := by decide +kernel
theorem dX4_writeTo_8 : decode cX4_writeTo 8 = .ok (.iconst 1, 1) := by decide +kernel
theorem dX4_writeTo_9 : decode cX4_writeTo 9 = .ok (.isub, 1) := by decide +kernel
theorem dX4_writeTo_10 : decode cX4_writeTo 10 = .ok (.istore_n 3, 1) := by decide +kernel
theorem dX4_writeTo_11 : decode cX4_writeTo 11 = .ok (.iload_n 3, 1) := by decide +kernel
theorem dX4_writeTo_12 : decode cX4_writeTo 12 = .ok (.ifCond .lt 36, 3) := by decide +kernel
theorem dX4_writeTo_15 : decode cX4_writeTo 15 = .ok (.aload_n 1, 1) := by decide +kernel
theorem dX4_writeTo_16 : decode cX4_writeTo 16 = .ok (.iload_n 3, 1) := by decide +kernel
theorem dX4_writeTo_17 : decode cX4_writeTo 17 = .ok (.aload_n 0, 1) := by decide +kernel
theorem dX4_writeTo_18 : decode cX4_writeTo 18 = .ok (.getfield 15, 3) := by decide +kernel
theorem dX4_writeTo_21 : decode cX4_writeTo 21 = .ok (.if_icmp .ge 16, 3) := by decide +kernel
theorem dX4_writeTo_24 : decode cX4_writeTo 24 = .ok (.aload_n 0, 1) := by decide +kernel
theorem dX4_writeTo_25 : decode cX4_writeTo 25 = .ok (.aload_n 0, 1) := by decide +kernel
theorem dX4_writeTo_26 : decode cX4_writeTo 26 = .ok (.getfield 9, 3) := by decide +kernel
theorem dX4_writeTo_29 : decode cX4_writeTo 29 = .ok (.iload_n 3, 1) := by decide +kernel
theorem dX4_writeTo_30 : decode cX4_writeTo 30 = .ok (.iaload, 1) := by decide +kernel
theorem dX4_writeTo_31 : decode cX4_writeTo 31 = .ok (.invokevirtual 29, 3) := by decide +kernel
theorem dX4_writeTo_34 : decode cX4_writeTo 34 = .ok (.goto 5, 3) := by decide +kernel
theorem dX4_writeTo_37 : decode cX4_writeTo 37 = .ok (.bipush 48, 2) := by decide +kernel
theorem dX4_writeTo_39 : decode cX4_writeTo 39 = .ok (.invokevirtual 33, 3) := by decide +kernel
theorem dX4_writeTo_42 : decode cX4_writeTo 42 = .ok (.iinc 3 (-1), 3) := by decide +kernel
theorem dX4_writeTo_45 : decode cX4_writeTo 45 = .ok (.goto (-34), 3) := by decide +kernel
theorem dX4_writeTo_48 : decode cX4_writeTo 48 = .ok (.return_, 1) := by decide +kernel
theorem dX4_characterOf_0 : decode cX4_characterOf 0 = .ok (.iload_n 1, 1) := by decide +kernel
theorem dX4_characterOf_1 : decode cX4_characterOf 1 = .ok (.bipush 10, 2) := by decide +kernel
theorem dX4_characterOf_3 : decode cX4_characterOf 3 = .ok (.if_icmp .ge 8, 3) := by decide +kernel
theorem dX4_characterOf_6 : decode cX4_characterOf 6 = .ok (.bipush 48, 2) := by decide +kernel
theorem dX4_characterOf_8 : decode cX4_characterOf 8 = .ok (.iload_n 1, 1) := by decide +kernel
theorem dX4_characterOf_9 : decode cX4_characterOf 9 = .ok (.iadd, 1) := by decide +kernel
theorem dX4_characterOf_10 : decode cX4_characterOf 10 = .ok (.ireturn, 1) := by decide +kernel
theorem dX4_characterOf_11 : decode cX4_characterOf 11 = .ok (.aload_n 0, 1) := by decide +kernel
theorem dX4_characterOf_12 : decode cX4_characterOf 12 = .ok (.getfield 19, 3) := by decide +kernel
theorem dX4_characterOf_15 : decode cX4_characterOf 15 = .ok (.ifCond .eq 8, 3) := by decide +kernel
theorem dX4_characterOf_18 : decode cX4_characterOf 18 = .ok (.bipush 65, 2) := by decide +kernel
theorem dX4_characterOf_20 : decode cX4_characterOf 20 = .ok (.goto 5, 3) := by decide +kernel
theorem dX4_characterOf_23 : decode cX4_characterOf 23 = .ok (.bipush 97, 2) := by decide +kernel
theorem dX4_characterOf_25 : decode cX4_characterOf 25 = .ok (.iload_n 1, 1) := by decide +kernel
theorem dX4_characterOf_26 : decode cX4_characterOf 26 = .ok (.iadd, 1) := by decide +kernel
theorem dX4_characterOf_27 : decode cX4_characterOf 27 = .ok (.bipush 10, 2) := by decide +kernel
theorem dX4_characterOf_29 : decode cX4_characterOf 29 = .ok (.isub, 1) := by decide +kernel
theorem dX4_characterOf_30 : decode cX4_characterOf 30 = .ok (.ireturn, 1) := by decide +kernel
