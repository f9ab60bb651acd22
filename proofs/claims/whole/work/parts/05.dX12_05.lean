theorem dX12_print_29 : decode cX12_print 29 = .ok (.putfield 156, 3) := by decide +kernel
theorem dX12_print_32 : decode cX12_print 32 = .ok (.aload_n 0, 1) := by decide +kernel
theorem dX12_print_33 : decode cX12_print 33 = .ok (.iconst 0, 1) := by decide +kernel
theorem dX12_print_34 : decode cX12_print 34 = .ok (.putfield 188, 3) := by decide +kernel
theorem dX12_print_37 : decode cX12_print 37 = .ok (.aload_n 0, 1) := by decide +kernel
theorem dX12_print_38 : decode cX12_print 38 = .ok (.iconst 0, 1) := by decide +kernel
theorem dX12_print_39 : decode cX12_print 39 = .ok (.putfield 149, 3) := by decide +kernel
theorem dX12_print_42 : decode cX12_print 42 = .ok (.iconst 1, 1) := by decide +kernel
theorem dX12_print_43 : decode cX12_print 43 = .ok (.istore_n 1, 1) := by decide +kernel
theorem dX12_print_44 : decode cX12_print 44 = .ok (.iload_n 1, 1) := by decide +kernel
theorem dX12_print_45 : decode cX12_print 45 = .ok (.ifCond .eq 47, 3) := by decide +kernel
theorem dX12_print_48 : decode cX12_print 48 = .ok (.aload_n 0, 1) := by decide +kernel
theorem dX12_print_49 : decode cX12_print 49 = .ok (.getfield 188, 3) := by decide +kernel
theorem dX12_print_52 : decode cX12_print 52 = .ok (.ifCond .ne 40, 3) := by decide +kernel
theorem dX12_print_55 : decode cX12_print 55 = .ok (.aload_n 0, 1) := by decide +kernel
theorem dX12_print_56 : decode cX12_print 56 = .ok (.getfield 156, 3) := by decide +kernel
theorem dX12_print_59 : decode cX12_print 59 = .ok (.istore_n 2, 1) := by decide +kernel
theorem dX12_print_60 : decode cX12_print 60 = .ok (.aload_n 0, 1) := by decide +kernel
theorem dX12_print_61 : decode cX12_print 61 = .ok (.invokevirtual 221, 3) := by decide +kernel
theorem dX12_print_64 : decode cX12_print 64 = .ok (.aload_n 0, 1) := by decide +kernel
theorem dX12_print_65 : decode cX12_print 65 = .ok (.getfield 156, 3) := by decide +kernel
theorem dX12_print_68 : decode cX12_print 68 = .ok (.aload_n 0, 1) := by decide +kernel
theorem dX12_print_69 : decode cX12_print 69 = .ok (.getfield 64, 3) := by decide +kernel
theorem dX12_print_72 : decode cX12_print 72 = .ok (.if_icmp .ge 15, 3) := by decide +kernel
theorem dX12_print_75 : decode cX12_print 75 = .ok (.aload_n 0, 1) := by decide +kernel
theorem dX12_print_76 : decode cX12_print 76 = .ok (.getfield 156, 3) := by decide +kernel
theorem dX12_print_79 : decode cX12_print 79 = .ok (.iload_n 2, 1) := by decide +kernel
theorem dX12_print_80 : decode cX12_print 80 = .ok (.if_icmp .le 7, 3) := by decide +kernel
theorem dX12_print_83 : decode cX12_print 83 = .ok (.iconst 1, 1) := by decide +kernel
theorem dX12_print_84 : decode cX12_print 84 = .ok (.goto 4, 3) := by decide +kernel
theorem dX12_print_87 : decode cX12_print 87 = .ok (.iconst 0, 1) := by decide +kernel
theorem dX12_print_88 : decode cX12_print 88 = .ok (.istore_n 1, 1) := by decide +kernel
theorem dX12_print_89 : decode cX12_print 89 = .ok (.goto (-45), 3) := by decide +kernel
theorem dX12_print_92 : decode cX12_print 92 = .ok (.aload_n 0, 1) := by decide +kernel
theorem dX12_print_93 : decode cX12_print 93 = .ok (.getfield 74, 3) := by decide +kernel
theorem dX12_print_96 : decode cX12_print 96 = .ok (.ifCond .ne 11, 3) := by decide +kernel
theorem dX12_print_99 : decode cX12_print 99 = .ok (.aload_n 0, 1) := by decide +kernel
theorem dX12_print_100 : decode cX12_print 100 = .ok (.aload_n 0, 1) := by decide +kernel
theorem dX12_print_101 : decode cX12_print 101 = .ok (.getfield 149, 3) := by decide +kernel
theorem dX12_print_104 : decode cX12_print 104 = .ok (.putfield 224, 3) := by decide +kernel
theorem dX12_print_107 : decode cX12_print 107 = .ok (.aload_n 0, 1) := by decide +kernel
theorem dX12_print_108 : decode cX12_print 108 = .ok (.invokevirtual 227, 3) := by decide +kernel
theorem dX12_print_111 : decode cX12_print 111 = .ok (.ireturn, 1) := by decide +kernel
theorem dX12_odd_0 : decode cX12_odd 0 = .ok (.aload_n 0, 1) := by decide +kernel
theorem dX12_odd_1 : decode cX12_odd 1 = .ok (.iconst 0, 1) := by decide +kernel
theorem dX12_odd_2 : decode cX12_odd 2 = .ok (.putfield 50, 3) := by decide +kernel
theorem dX12_odd_5 : decode cX12_odd 5 = .ok (.aload_n 0, 1) := by decide +kernel
theorem dX12_odd_6 : decode cX12_odd 6 = .ok (.getfield 224, 3) := by decide +kernel
theorem dX12_odd_9 : decode cX12_odd 9 = .ok (.ireturn, 1) := by decide +kernel
theorem dX12_feed_0 : decode cX12_feed 0 = .ok (.aload_n 0, 1) := by decide +kernel
theorem dX12_feed_1 : decode cX12_feed 1 = .ok (.iload_n 1, 1) := by decide +kernel
theorem dX12_feed_2 : decode cX12_feed 2 = .ok (.iconst 0, 1) := by decide +kernel
theorem dX12_feed_3 : decode cX12_feed 3 = .ok (.bipush 16, 2) := by decide +kernel
theorem dX12_feed_5 : decode cX12_feed 5 = .ok (.invokestatic 67, 3) := by decide +kernel
theorem dX12_feed_8 : decode cX12_feed 8 = .ok (.ifCond .ne 7, 3) := by decide +kernel
theorem dX12_feed_11 : decode cX12_feed 11 = .ok (.iconst 1, 1) := by decide +kernel
theorem dX12_feed_12 : decode cX12_feed 12 = .ok (.goto 20, 3) := by decide +kernel
theorem dX12_feed_15 : decode cX12_feed 15 = .ok (.aload_n 0, 1) := by decide +kernel
theorem dX12_feed_16 : decode cX12_feed 16 = .ok (.getfield 230, 3) := by decide +kernel
theorem dX12_feed_19 : decode cX12_feed 19 = .ok (.iload_n 1, 1) := by decide +kernel
theorem dX12_feed_20 : decode cX12_feed 20 = .ok (.iadd, 1) := by decide +kernel
theorem dX12_feed_21 : decode cX12_feed 21 = .ok (.sipush 256, 3) := by decide +kernel
theorem dX12_feed_24 : decode cX12_feed 24 = .ok (.if_icmp .le 7, 3) := by decide +kernel
theorem dX12_feed_27 : decode cX12_feed 27 = .ok (.iconst 2, 1) := by decide +kernel
theorem dX12_feed_28 : decode cX12_feed 28 = .ok (.goto 4, 3) := by decide +kernel
theorem dX12_feed_31 : decode cX12_feed 31 = .ok (.iconst 0, 1) := by decide +kernel
theorem dX12_feed_32 : decode cX12_feed 32 = .ok (.invokevirtual 60, 3) := by decide +kernel
theorem dX12_feed_35 : decode cX12_feed 35 = .ok (.ifCond .eq 5, 3) := by decide +kernel
theorem dX12_feed_38 : decode cX12_feed 38 = .ok (.iconst 0, 1) := by decide +kernel
theorem dX12_feed_39 : decode cX12_feed 39 = .ok (.ireturn, 1) := by decide +kernel
theorem dX12_feed_40 : decode cX12_feed 40 = .ok (.iconst 0, 1) := by decide +kernel
theorem dX12_feed_41 : decode cX12_feed 41 = .ok (.istore 6, 2) := by decide +kernel
theorem dX12_feed_43 : decode cX12_feed 43 = .ok (.iload 6, 2) := by decide +kernel
theorem dX12_feed_45 : decode cX12_feed 45 = .ok (.iload_n 1, 1) := by decide +kernel
theorem dX12_feed_46 : decode cX12_feed 46 = .ok (.if_icmp .ge 82, 3) := by decide +kernel
theorem dX12_feed_49 : decode cX12_feed 49 = .ok (.iload 6, 2) := by decide +kernel
theorem dX12_feed_51 : decode cX12_feed 51 = .ok (.iconst 4, 1) := by decide +kernel
theorem dX12_feed_52 : decode cX12_feed 52 = .ok (.if_icmp .ge 7, 3) := by decide +kernel
theorem dX12_feed_55 : decode cX12_feed 55 = .ok (.iload_n 2, 1) := by decide +kernel
theorem dX12_feed_56 : decode cX12_feed 56 = .ok (.goto 28, 3) := by decide +kernel
theorem dX12_feed_59 : decode cX12_feed 59 = .ok (.iload 6, 2) := by decide +kernel
theorem dX12_feed_61 : decode cX12_feed 61 = .ok (.bipush 8, 2) := by decide +kernel
theorem dX12_feed_63 : decode cX12_feed 63 = .ok (.if_icmp .ge 7, 3) := by decide +kernel
theorem dX12_feed_66 : decode cX12_feed 66 = .ok (.iload_n 3, 1) := by decide +kernel
theorem dX12_feed_67 : decode cX12_feed 67 = .ok (.goto 17, 3) := by decide +kernel
theorem dX12_feed_70 : decode cX12_feed 70 = .ok (.iload 6, 2) := by decide +kernel
theorem dX12_feed_72 : decode cX12_feed 72 = .ok (.bipush 12, 2) := by decide +kernel
theorem dX12_feed_74 : decode cX12_feed 74 = .ok (.if_icmp .ge 8, 3) := by decide +kernel
theorem dX12_feed_77 : decode cX12_feed 77 = .ok (.iload 4, 2) := by decide +kernel
theorem dX12_feed_79 : decode cX12_feed 79 = .ok (.goto 5, 3) := by decide +kernel
theorem dX12_feed_82 : decode cX12_feed 82 = .ok (.iload 5, 2) := by decide +kernel
theorem dX12_feed_84 : decode cX12_feed 84 = .ok (.istore 7, 2) := by decide +kernel
theorem dX12_feed_86 : decode cX12_feed 86 = .ok (.aload_n 0, 1) := by decide +kernel
theorem dX12_feed_87 : decode cX12_feed 87 = .ok (.getfield 28, 3) := by decide +kernel
theorem dX12_feed_90 : decode cX12_feed 90 = .ok (.aload_n 0, 1) := by decide +kernel
theorem dX12_feed_91 : decode cX12_feed 91 = .ok (.getfield 230, 3) := by decide +kernel
theorem dX12_feed_94 : decode cX12_feed 94 = .ok (.iload 7, 2) := by decide +kernel
theorem dX12_feed_96 : decode cX12_feed 96 = .ok (.bipush 24, 2) := by decide +kernel
theorem dX12_feed_98 : decode cX12_feed 98 = .ok (.bipush 8, 2) := by decide +kernel
theorem dX12_feed_100 : decode cX12_feed 100 = .ok (.iload 6, 2) := by decide +kernel
theorem dX12_feed_102 : decode cX12_feed 102 = .ok (.iconst 4, 1) := by decide +kernel
theorem dX12_feed_103 : decode cX12_feed 103 = .ok (.irem, 1) := by decide +kernel
theorem dX12_feed_104 : decode cX12_feed 104 = .ok (.imul, 1) := by decide +kernel
theorem dX12_feed_105 : decode cX12_feed 105 = .ok (.isub, 1) := by decide +kernel
theorem dX12_feed_106 : decode cX12_feed 106 = .ok (.ishr, 1) := by decide +kernel
theorem dX12_feed_107 : decode cX12_feed 107 = .ok (.sipush 255, 3) := by decide +kernel
theorem dX12_feed_110 : decode cX12_feed 110 = .ok (.iand, 1) := by decide +kernel
theorem dX12_feed_111 : decode cX12_feed 111 = .ok (.iastore, 1) := by decide +kernel
theorem dX12_feed_112 : decode cX12_feed 112 = .ok (.aload_n 0, 1) := by decide +kernel
theorem dX12_feed_113 : decode cX12_feed 113 = .ok (.dup, 1) := by decide +kernel
theorem dX12_feed_114 : decode cX12_feed 114 = .ok (.getfield 230, 3) := by decide +kernel
theorem dX12_feed_117 : decode cX12_feed 117 = .ok (.iconst 1, 1) := by decide +kernel
theorem dX12_feed_118 : decode cX12_feed 118 = .ok (.iadd, 1) := by decide +kernel
theorem dX12_feed_119 : decode cX12_feed 119 = .ok (.putfield 230, 3) := by decide +kernel
theorem dX12_feed_122 : decode cX12_feed 122 = .ok (.iinc 6 1, 3) := by decide +kernel
theorem dX12_feed_125 : decode cX12_feed 125 = .ok (.goto (-82), 3) := by decide +kernel
theorem dX12_feed_128 : decode cX12_feed 128 = .ok (.aload_n 0, 1) := by decide +kernel
theorem dX12_feed_129 : decode cX12_feed 129 = .ok (.getfield 230, 3) := by decide +kernel
theorem dX12_feed_132 : decode cX12_feed 132 = .ok (.ireturn, 1) := by decide +kernel
theorem dX12_cut_0 : decode cX12_cut 0 = .ok (.aload_n 0, 1) := by decide +kernel
theorem dX12_cut_1 : decode cX12_cut 1 = .ok (.iload_n 1, 1) := by decide +kernel
theorem dX12_cut_2 : decode cX12_cut 2 = .ok (.iconst 0, 1) := by decide +kernel
theorem dX12_cut_3 : decode cX12_cut 3 = .ok (.aload_n 0, 1) := by decide +kernel
theorem dX12_cut_4 : decode cX12_cut 4 = .ok (.getfield 230, 3) := by decide +kernel
theorem dX12_cut_7 : decode cX12_cut 7 = .ok (.invokestatic 67, 3) := by decide +kernel
theorem dX12_cut_10 : decode cX12_cut 10 = .ok (.ifCond .eq 7, 3) := by decide +kernel
theorem dX12_cut_13 : decode cX12_cut 13 = .ok (.iconst 0, 1) := by decide +kernel
theorem dX12_cut_14 : decode cX12_cut 14 = .ok (.goto 4, 3) := by decide +kernel
theorem dX12_cut_17 : decode cX12_cut 17 = .ok (.iconst 1, 1) := by decide +kernel
theorem dX12_cut_18 : decode cX12_cut 18 = .ok (.invokevirtual 60, 3) := by decide +kernel
theorem dX12_cut_21 : decode cX12_cut 21 = .ok (.ifCond .eq 5, 3) := by decide +kernel
theorem dX12_cut_24 : decode cX12_cut 24 = .ok (.iconst 0, 1) := by decide +kernel
theorem dX12_cut_25 : decode cX12_cut 25 = .ok (.ireturn, 1) := by decide +kernel
theorem dX12_cut_26 : decode cX12_cut 26 = .ok (.aload_n 0, 1) := by decide +kernel
theorem dX12_cut_27 : decode cX12_cut 27 = .ok (.getfield 230, 3) := by decide +kernel
theorem dX12_cut_30 : decode cX12_cut 30 = .ok (.iload_n 1, 1) := by decide +kernel
theorem dX12_cut_31 : decode cX12_cut 31 = .ok (.isub, 1) := by decide +kernel
theorem dX12_cut_32 : decode cX12_cut 32 = .ok (.istore_n 2, 1) := by decide +kernel
theorem dX12_cut_33 : decode cX12_cut 33 = .ok (.aload_n 0, 1) := by decide +kernel
theorem dX12_cut_34 : decode cX12_cut 34 = .ok (.iload_n 1, 1) := by decide +kernel
theorem dX12_cut_35 : decode cX12_cut 35 = .ok (.putfield 230, 3) := by decide +kernel
theorem dX12_cut_38 : decode cX12_cut 38 = .ok (.iload_n 2, 1) := by decide +kernel
theorem dX12_cut_39 : decode cX12_cut 39 = .ok (.ireturn, 1) := by decide +kernel
theorem dX12_putAddress_0 : decode cX12_putAddress 0 = .ok (.iload_n 1, 1) := by decide +kernel
theorem dX12_putAddress_1 : decode cX12_putAddress 1 = .ok (.ifCond .ne 4, 3) := by decide +kernel
theorem dX12_putAddress_4 : decode cX12_putAddress 4 = .ok (.return_, 1) := by decide +kernel
theorem dX12_putAddress_5 : decode cX12_putAddress 5 = .ok (.aload_n 0, 1) := by decide +kernel
theorem dX12_putAddress_6 : decode cX12_putAddress 6 = .ok (.iload_n 2, 1) := by decide +kernel
theorem dX12_putAddress_7 : decode cX12_putAddress 7 = .ok (.i2l, 1) := by decide +kernel
theorem dX12_putAddress_8 : decode cX12_putAddress 8 = .ok (.iload_n 1, 1) := by decide +kernel
theorem dX12_putAddress_9 : decode cX12_putAddress 9 = .ok (.iload_n 3, 1) := by decide +kernel
theorem dX12_putAddress_10 : decode cX12_putAddress 10 = .ok (.invokevirtual 166, 3) := by decide +kernel
theorem dX12_putAddress_13 : decode cX12_putAddress 13 = .ok (.aload_n 0, 1) := by decide +kernel
theorem dX12_putAddress_14 : decode cX12_putAddress 14 = .ok (.iload_n 1, 1) := by decide +kernel
theorem dX12_putAddress_15 : decode cX12_putAddress 15 = .ok (.bipush 16, 2) := by decide +kernel
theorem dX12_putAddress_17 : decode cX12_putAddress 17 = .ok (.if_icmp .ne 8, 3) := by decide +kernel
theorem dX12_putAddress_20 : decode cX12_putAddress 20 = .ok (.bipush 6, 2) := by decide +kernel
theorem dX12_putAddress_22 : decode cX12_putAddress 22 = .ok (.goto 5, 3) := by decide +kernel
theorem dX12_putAddress_25 : decode cX12_putAddress 25 = .ok (.bipush 7, 2) := by decide +kernel
theorem dX12_putAddress_27 : decode cX12_putAddress 27 = .ok (.invokevirtual 170, 3) := by decide +kernel
theorem dX12_putAddress_30 : decode cX12_putAddress 30 = .ok (.aload_n 0, 1) := by decide +kernel
theorem dX12_putAddress_31 : decode cX12_putAddress 31 = .ok (.invokevirtual 185, 3) := by decide +kernel
theorem dX12_putAddress_34 : decode cX12_putAddress 34 = .ok (.return_, 1) := by decide +kernel
theorem dX12_index_0 : decode cX12_index 0 = .ok (.iload_n 0, 1) := by decide +kernel
theorem dX12_index_1 : decode cX12_index 1 = .ok (.iconst 1, 1) := by decide +kernel
theorem dX12_index_2 : decode cX12_index 2 = .ok (.if_icmp .ne 7, 3) := by decide +kernel
theorem dX12_index_5 : decode cX12_index 5 = .ok (.iconst 0, 1) := by decide +kernel
theorem dX12_index_6 : decode cX12_index 6 = .ok (.goto 22, 3) := by decide +kernel
theorem dX12_index_9 : decode cX12_index 9 = .ok (.iload_n 0, 1) := by decide +kernel
theorem dX12_index_10 : decode cX12_index 10 = .ok (.iconst 2, 1) := by decide +kernel
theorem dX12_index_11 : decode cX12_index 11 = .ok (.if_icmp .ne 7, 3) := by decide +kernel
theorem dX12_index_14 : decode cX12_index 14 = .ok (.iconst 1, 1) := by decide +kernel
theorem dX12_index_15 : decode cX12_index 15 = .ok (.goto 13, 3) := by decide +kernel
theorem dX12_index_18 : decode cX12_index 18 = .ok (.iload_n 0, 1) := by decide +kernel
theorem dX12_index_19 : decode cX12_index 19 = .ok (.iconst 4, 1) := by decide +kernel
theorem dX12_index_20 : decode cX12_index 20 = .ok (.if_icmp .ne 7, 3) := by decide +kernel
theorem dX12_index_23 : decode cX12_index 23 = .ok (.iconst 2, 1) := by decide +kernel
theorem dX12_index_24 : decode cX12_index 24 = .ok (.goto 4, 3) := by decide +kernel
theorem dX12_index_27 : decode cX12_index 27 = .ok (.iconst 3, 1) := by decide +kernel
theorem dX12_index_28 : decode cX12_index 28 = .ok (.ireturn, 1) := by decide +kernel
theorem dX12_choose_0 : decode cX12_choose 0 = .ok (.iload_n 0, 1) := by decide +kernel
theorem dX12_choose_1 : decode cX12_choose 1 = .ok (.ifCond .ne 7, 3) := by decide +kernel
theorem dX12_choose_4 : decode cX12_choose 4 = .ok (.iload_n 1, 1) := by decide +kernel
theorem dX12_choose_5 : decode cX12_choose 5 = .ok (.goto 23, 3) := by decide +kernel
theorem dX12_choose_8 : decode cX12_choose 8 = .ok (.iload_n 0, 1) := by decide +kernel
theorem dX12_choose_9 : decode cX12_choose 9 = .ok (.iconst 1, 1) := by decide +kernel
theorem dX12_choose_10 : decode cX12_choose 10 = .ok (.if_icmp .ne 7, 3) := by decide +kernel
theorem dX12_choose_13 : decode cX12_choose 13 = .ok (.iload_n 2, 1) := by decide +kernel
theorem dX12_choose_14 : decode cX12_choose 14 = .ok (.goto 14, 3) := by decide +kernel
theorem dX12_choose_17 : decode cX12_choose 17 = .ok (.iload_n 0, 1) := by decide +kernel
theorem dX12_choose_18 : decode cX12_choose 18 = .ok (.iconst 2, 1) := by decide +kernel
theorem dX12_choose_19 : decode cX12_choose 19 = .ok (.if_icmp .ne 7, 3) := by decide +kernel
theorem dX12_choose_22 : decode cX12_choose 22 = .ok (.iload_n 3, 1) := by decide +kernel
theorem dX12_choose_23 : decode cX12_choose 23 = .ok (.goto 5, 3) := by decide +kernel
theorem dX12_choose_26 : decode cX12_choose 26 = .ok (.iload 4, 2) := by decide +kernel
theorem dX12_choose_28 : decode cX12_choose 28 = .ok (.ireturn, 1) := by decide +kernel
theorem dX12_putField_0 : decode cX12_putField 0 = .ok (.lconst 0, 1) := by decide +kernel
theorem dX12_putField_1 : decode cX12_putField 1 = .ok (.lstore 4, 2) := by decide +kernel
theorem dX12_putField_3 : decode cX12_putField 3 = .ok (.iload_n 3, 1) := by decide +kernel
theorem dX12_putField_4 : decode cX12_putField 4 = .ok (.iconst 1, 1) := by decide +kernel
theorem dX12_putField_5 : decode cX12_putField 5 = .ok (.isub, 1) := by decide +kernel
theorem dX12_putField_6 : decode cX12_putField 6 = .ok (.istore 6, 2) := by decide +kernel
theorem dX12_putField_8 : decode cX12_putField 8 = .ok (.iload 6, 2) := by decide +kernel
theorem dX12_putField_10 : decode cX12_putField 10 = .ok (.ifCond .lt 42, 3) := by decide +kernel
theorem dX12_putField_13 : decode cX12_putField 13 = .ok (.lload 4, 2) := by decide +kernel
theorem dX12_putField_15 : decode cX12_putField 15 = .ok (.bipush 8, 2) := by decide +kernel
theorem dX12_putField_17 : decode cX12_putField 17 = .ok (.lshl, 1) := by decide +kernel
theorem dX12_putField_18 : decode cX12_putField 18 = .ok (.iload_n 1, 1) := by decide +kernel
theorem dX12_putField_19 : decode cX12_putField 19 = .ok (.iload 6, 2) := by decide +kernel
theorem dX12_putField_21 : decode cX12_putField 21 = .ok (.iadd, 1) := by decide +kernel
theorem dX12_putField_22 : decode cX12_putField 22 = .ok (.aload_n 0, 1) := by decide +kernel
theorem dX12_putField_23 : decode cX12_putField 23 = .ok (.getfield 230, 3) := by decide +kernel
theorem dX12_putField_26 : decode cX12_putField 26 = .ok (.if_icmp .ge 15, 3) := by decide +kernel
theorem dX12_putField_29 : decode cX12_putField 29 = .ok (.aload_n 0, 1) := by decide +kernel
theorem dX12_putField_30 : decode cX12_putField 30 = .ok (.getfield 28, 3) := by decide +kernel
theorem dX12_putField_33 : decode cX12_putField 33 = .ok (.iload_n 1, 1) := by decide +kernel
theorem dX12_putField_34 : decode cX12_putField 34 = .ok (.iload 6, 2) := by decide +kernel
theorem dX12_putField_36 : decode cX12_putField 36 = .ok (.iadd, 1) := by decide +kernel
theorem dX12_putField_37 : decode cX12_putField 37 = .ok (.iaload, 1) := by decide +kernel
theorem dX12_putField_38 : decode cX12_putField 38 = .ok (.goto 4, 3) := by decide +kernel
theorem dX12_putField_41 : decode cX12_putField 41 = .ok (.iconst 0, 1) := by decide +kernel
theorem dX12_putField_42 : decode cX12_putField 42 = .ok (.i2l, 1) := by decide +kernel
theorem dX12_putField_43 : decode cX12_putField 43 = .ok (.lor, 1) := by decide +kernel
theorem dX12_putField_44 : decode cX12_putField 44 = .ok (.lstore 4, 2) := by decide +kernel
theorem dX12_putField_46 : decode cX12_putField 46 = .ok (.iinc 6 (-1), 3) := by decide +kernel
theorem dX12_putField_49 : decode cX12_putField 49 = .ok (.goto (-41), 3) := by decide +kernel
theorem dX12_putField_52 : decode cX12_putField 52 = .ok (.aload_n 0, 1) := by decide +kernel
theorem dX12_putField_53 : decode cX12_putField 53 = .ok (.bipush 32, 2) := by decide +kernel
theorem dX12_putField_55 : decode cX12_putField 55 = .ok (.invokevirtual 87, 3) := by decide +kernel
theorem dX12_putField_58 : decode cX12_putField 58 = .ok (.iload_n 3, 1) := by decide +kernel
theorem dX12_putField_59 : decode cX12_putField 59 = .ok (.invokestatic 233, 3) := by decide +kernel
theorem dX12_putField_62 : decode cX12_putField 62 = .ok (.istore 6, 2) := by decide +kernel
theorem dX12_putField_64 : decode cX12_putField 64 = .ok (.iload_n 2, 1) := by decide +kernel
theorem dX12_putField_65 : decode cX12_putField 65 = .ok (.bipush 111, 2) := by decide +kernel
theorem dX12_putField_67 : decode cX12_putField 67 = .ok (.if_icmp .eq 9, 3) := by decide +kernel
theorem dX12_putField_70 : decode cX12_putField 70 = .ok (.iload_n 2, 1) := by decide +kernel
theorem dX12_putField_71 : decode cX12_putField 71 = .ok (.bipush 120, 2) := by decide +kernel
theorem dX12_putField_73 : decode cX12_putField 73 = .ok (.if_icmp .ne 66, 3) := by decide +kernel
theorem dX12_putField_76 : decode cX12_putField 76 = .ok (.aload_n 0, 1) := by decide +kernel
theorem dX12_putField_77 : decode cX12_putField 77 = .ok (.lload 4, 2) := by decide +kernel
theorem dX12_putField_79 : decode cX12_putField 79 = .ok (.iload_n 2, 1) := by decide +kernel
theorem dX12_putField_80 : decode cX12_putField 80 = .ok (.bipush 111, 2) := by decide +kernel
theorem dX12_putField_82 : decode cX12_putField 82 = .ok (.if_icmp .ne 8, 3) := by decide +kernel
theorem dX12_putField_85 : decode cX12_putField 85 = .ok (.bipush 8, 2) := by decide +kernel
theorem dX12_putField_87 : decode cX12_putField 87 = .ok (.goto 5, 3) := by decide +kernel
theorem dX12_putField_90 : decode cX12_putField 90 = .ok (.bipush 16, 2) := by decide +kernel
theorem dX12_putField_92 : decode cX12_putField 92 = .ok (.iconst 0, 1) := by decide +kernel
theorem dX12_putField_93 : decode cX12_putField 93 = .ok (.invokevirtual 166, 3) := by decide +kernel
theorem dX12_putField_96 : decode cX12_putField 96 = .ok (.aload_n 0, 1) := by decide +kernel
theorem dX12_putField_97 : decode cX12_putField 97 = .ok (.iload_n 2, 1) := by decide +kernel
theorem dX12_putField_98 : decode cX12_putField 98 = .ok (.bipush 111, 2) := by decide +kernel
theorem dX12_putField_100 : decode cX12_putField 100 = .ok (.if_icmp .ne 18, 3) := by decide +kernel
theorem dX12_putField_103 : decode cX12_putField 103 = .ok (.iload 6, 2) := by decide +kernel
theorem dX12_putField_105 : decode cX12_putField 105 = .ok (.iconst 3, 1) := by decide +kernel
theorem dX12_putField_106 : decode cX12_putField 106 = .ok (.bipush 6, 2) := by decide +kernel
theorem dX12_putField_108 : decode cX12_putField 108 = .ok (.bipush 11, 2) := by decide +kernel
theorem dX12_putField_110 : decode cX12_putField 110 = .ok (.bipush 22, 2) := by decide +kernel
theorem dX12_putField_112 : decode cX12_putField 112 = .ok (.invokestatic 237, 3) := by decide +kernel
theorem dX12_putField_115 : decode cX12_putField 115 = .ok (.goto 14, 3) := by decide +kernel
theorem dX12_putField_118 : decode cX12_putField 118 = .ok (.iload 6, 2) := by decide +kernel
theorem dX12_putField_120 : decode cX12_putField 120 = .ok (.iconst 2, 1) := by decide +kernel
theorem dX12_putField_121 : decode cX12_putField 121 = .ok (.iconst 4, 1) := by decide +kernel
theorem dX12_putField_122 : decode cX12_putField 122 = .ok (.bipush 8, 2) := by decide +kernel
theorem dX12_putField_124 : decode cX12_putField 124 = .ok (.bipush 16, 2) := by decide +kernel
theorem dX12_putField_126 : decode cX12_putField 126 = .ok (.invokestatic 237, 3) := by decide +kernel
theorem dX12_putField_129 : decode cX12_putField 129 = .ok (.invokevirtual 170, 3) := by decide +kernel
theorem dX12_putField_132 : decode cX12_putField 132 = .ok (.aload_n 0, 1) := by decide +kernel
theorem dX12_putField_133 : decode cX12_putField 133 = .ok (.invokevirtual 185, 3) := by decide +kernel
theorem dX12_putField_136 : decode cX12_putField 136 = .ok (.goto 174, 3) := by decide +kernel
theorem dX12_putField_139 : decode cX12_putField 139 = .ok (.iload_n 2, 1) := by decide +kernel
theorem dX12_putField_140 : decode cX12_putField 140 = .ok (.bipush 99, 2) := by decide +kernel
theorem dX12_putField_142 : decode cX12_putField 142 = .ok (.if_icmp .ne 13, 3) := by decide +kernel
theorem dX12_putField_145 : decode cX12_putField 145 = .ok (.aload_n 0, 1) := by decide +kernel
theorem dX12_putField_146 : decode cX12_putField 146 = .ok (.lload 4, 2) := by decide +kernel
theorem dX12_putField_148 : decode cX12_putField 148 = .ok (.l2i, 1) := by decide +kernel
theorem dX12_putField_149 : decode cX12_putField 149 = .ok (.invokevirtual 241, 3) := by decide +kernel
theorem dX12_putField_152 : decode cX12_putField 152 = .ok (.goto 158, 3) := by decide +kernel
theorem dX12_putField_155 : decode cX12_putField 155 = .ok (.iload_n 2, 1) := by decide +kernel
theorem dX12_putField_156 : decode cX12_putField 156 = .ok (.bipush 100, 2) := by decide +kernel
theorem dX12_putField_158 : decode cX12_putField 158 = .ok (.if_icmp .ne 30, 3) := by decide +kernel
theorem dX12_putField_161 : decode cX12_putField 161 = .ok (.iload_n 3, 1) := by decide +kernel
theorem dX12_putField_162 : decode cX12_putField 162 = .ok (.bipush 8, 2) := by decide +kernel
theorem dX12_putField_164 : decode cX12_putField 164 = .ok (.if_icmp .ge 24, 3) := by decide +kernel
theorem dX12_putField_167 : decode cX12_putField 167 = .ok (.lload 4, 2) := by decide +kernel
theorem dX12_putField_169 : decode cX12_putField 169 = .ok (.bipush 64, 2) := by decide +kernel
theorem dX12_putField_171 : decode cX12_putField 171 = .ok (.bipush 8, 2) := by decide +kernel
theorem dX12_putField_173 : decode cX12_putField 173 = .ok (.iload_n 3, 1) := by decide +kernel
theorem dX12_putField_174 : decode cX12_putField 174 = .ok (.imul, 1) := by decide +kernel
theorem dX12_putField_175 : decode cX12_putField 175 = .ok (.isub, 1) := by decide +kernel
theorem dX12_putField_176 : decode cX12_putField 176 = .ok (.lshl, 1) := by decide +kernel
theorem dX12_putField_177 : decode cX12_putField 177 = .ok (.bipush 64, 2) := by decide +kernel
theorem dX12_putField_179 : decode cX12_putField 179 = .ok (.bipush 8, 2) := by decide +kernel
theorem dX12_putField_181 : decode cX12_putField 181 = .ok (.iload_n 3, 1) := by decide +kernel
theorem dX12_putField_182 : decode cX12_putField 182 = .ok (.imul, 1) := by decide +kernel
theorem dX12_putField_183 : decode cX12_putField 183 = .ok (.isub, 1) := by decide +kernel
theorem dX12_putField_184 : decode cX12_putField 184 = .ok (.lshr, 1) := by decide +kernel
theorem dX12_putField_185 : decode cX12_putField 185 = .ok (.goto 5, 3) := by decide +kernel
theorem dX12_putField_188 : decode cX12_putField 188 = .ok (.lload 4, 2) := by decide +kernel
theorem dX12_putField_190 : decode cX12_putField 190 = .ok (.lstore 7, 2) := by decide +kernel
theorem dX12_putField_192 : decode cX12_putField 192 = .ok (.iload_n 2, 1) := by decide +kernel
theorem dX12_putField_193 : decode cX12_putField 193 = .ok (.bipush 100, 2) := by decide +kernel
theorem dX12_putField_195 : decode cX12_putField 195 = .ok (.if_icmp .ne 14, 3) := by decide +kernel
theorem dX12_putField_198 : decode cX12_putField 198 = .ok (.lload 7, 2) := by decide +kernel
theorem dX12_putField_200 : decode cX12_putField 200 = .ok (.lconst 0, 1) := by decide +kernel
theorem dX12_putField_201 : decode cX12_putField 201 = .ok (.lcmp, 1) := by decide +kernel
theorem dX12_putField_202 : decode cX12_putField 202 = .ok (.ifCond .ge 7, 3) := by decide +kernel
theorem dX12_putField_205 : decode cX12_putField 205 = .ok (.iconst 1, 1) := by decide +kernel
theorem dX12_putField_206 : decode cX12_putField 206 = .ok (.goto 4, 3) := by decide +kernel
theorem dX12_putField_209 : decode cX12_putField 209 = .ok (.iconst 0, 1) := by decide +kernel
theorem dX12_putField_210 : decode cX12_putField 210 = .ok (.istore 9, 2) := by decide +kernel
theorem dX12_putField_212 : decode cX12_putField 212 = .ok (.aload_n 0, 1) := by decide +kernel
theorem dX12_putField_213 : decode cX12_putField 213 = .ok (.iload 9, 2) := by decide +kernel
theorem dX12_putField_215 : decode cX12_putField 215 = .ok (.ifCond .eq 9, 3) := by decide +kernel
theorem dX12_putField_218 : decode cX12_putField 218 = .ok (.lload 7, 2) := by decide +kernel
theorem dX12_putField_220 : decode cX12_putField 220 = .ok (.lneg, 1) := by decide +kernel
theorem dX12_putField_221 : decode cX12_putField 221 = .ok (.goto 5, 3) := by decide +kernel
theorem dX12_putField_224 : decode cX12_putField 224 = .ok (.lload 7, 2) := by decide +kernel
theorem dX12_putField_226 : decode cX12_putField 226 = .ok (.bipush 10, 2) := by decide +kernel
theorem dX12_putField_228 : decode cX12_putField 228 = .ok (.iconst 0, 1) := by decide +kernel
theorem dX12_putField_229 : decode cX12_putField 229 = .ok (.invokevirtual 166, 3) := by decide +kernel
theorem dX12_putField_232 : decode cX12_putField 232 = .ok (.aload_n 0, 1) := by decide +kernel
theorem dX12_putField_233 : decode cX12_putField 233 = .ok (.iconst 1, 1) := by decide +kernel
theorem dX12_putField_234 : decode cX12_putField 234 = .ok (.invokevirtual 170, 3) := by decide +kernel
theorem dX12_putField_237 : decode cX12_putField 237 = .ok (.iload_n 2, 1) := by decide +kernel
theorem dX12_putField_238 : decode cX12_putField 238 = .ok (.bipush 100, 2) := by decide +kernel
theorem dX12_putField_240 : decode cX12_putField 240 = .ok (.if_icmp .ne 18, 3) := by decide +kernel
theorem dX12_putField_243 : decode cX12_putField 243 = .ok (.iload 6, 2) := by decide +kernel
theorem dX12_putField_245 : decode cX12_putField 245 = .ok (.iconst 4, 1) := by decide +kernel
theorem dX12_putField_246 : decode cX12_putField 246 = .ok (.bipush 6, 2) := by decide +kernel
theorem dX12_putField_248 : decode cX12_putField 248 = .ok (.bipush 11, 2) := by decide +kernel
theorem dX12_putField_250 : decode cX12_putField 250 = .ok (.bipush 20, 2) := by decide +kernel
theorem dX12_putField_252 : decode cX12_putField 252 = .ok (.invokestatic 237, 3) := by decide +kernel
theorem dX12_putField_255 : decode cX12_putField 255 = .ok (.goto 14, 3) := by decide +kernel
theorem dX12_putField_258 : decode cX12_putField 258 = .ok (.iload 6, 2) := by decide +kernel
theorem dX12_putField_260 : decode cX12_putField 260 = .ok (.iconst 3, 1) := by decide +kernel
theorem dX12_putField_261 : decode cX12_putField 261 = .ok (.iconst 5, 1) := by decide +kernel
theorem dX12_putField_262 : decode cX12_putField 262 = .ok (.bipush 10, 2) := by decide +kernel
theorem dX12_putField_264 : decode cX12_putField 264 = .ok (.bipush 20, 2) := by decide +kernel
theorem dX12_putField_266 : decode cX12_putField 266 = .ok (.invokestatic 237, 3) := by decide +kernel
theorem dX12_putField_269 : decode cX12_putField 269 = .ok (.istore 10, 2) := by decide +kernel
theorem dX12_putField_271 : decode cX12_putField 271 = .ok (.aload_n 0, 1) := by decide +kernel
theorem dX12_putField_272 : decode cX12_putField 272 = .ok (.bipush 32, 2) := by decide +kernel
theorem dX12_putField_274 : decode cX12_putField 274 = .ok (.iload 10, 2) := by decide +kernel
theorem dX12_putField_276 : decode cX12_putField 276 = .ok (.aload_n 0, 1) := by decide +kernel
theorem dX12_putField_277 : decode cX12_putField 277 = .ok (.getfield 78, 3) := by decide +kernel
theorem dX12_putField_280 : decode cX12_putField 280 = .ok (.isub, 1) := by decide +kernel
theorem dX12_putField_281 : decode cX12_putField 281 = .ok (.iload 9, 2) := by decide +kernel
theorem dX12_putField_283 : decode cX12_putField 283 = .ok (.ifCond .eq 7, 3) := by decide +kernel
theorem dX12_putField_286 : decode cX12_putField 286 = .ok (.iconst 1, 1) := by decide +kernel
theorem dX12_putField_287 : decode cX12_putField 287 = .ok (.goto 4, 3) := by decide +kernel
theorem dX12_putField_290 : decode cX12_putField 290 = .ok (.iconst 0, 1) := by decide +kernel
theorem dX12_putField_291 : decode cX12_putField 291 = .ok (.isub, 1) := by decide +kernel
theorem dX12_putField_292 : decode cX12_putField 292 = .ok (.invokevirtual 181, 3) := by decide +kernel
theorem dX12_putField_295 : decode cX12_putField 295 = .ok (.iload 9, 2) := by decide +kernel
theorem dX12_putField_297 : decode cX12_putField 297 = .ok (.ifCond .eq 9, 3) := by decide +kernel
theorem dX12_putField_300 : decode cX12_putField 300 = .ok (.aload_n 0, 1) := by decide +kernel
theorem dX12_putField_301 : decode cX12_putField 301 = .ok (.bipush 45, 2) := by decide +kernel
theorem dX12_putField_303 : decode cX12_putField 303 = .ok (.invokevirtual 87, 3) := by decide +kernel
theorem dX12_putField_306 : decode cX12_putField 306 = .ok (.aload_n 0, 1) := by decide +kernel
theorem dX12_putField_307 : decode cX12_putField 307 = .ok (.invokevirtual 185, 3) := by decide +kernel
theorem dX12_putField_310 : decode cX12_putField 310 = .ok (.return_, 1) := by decide +kernel
theorem dX12_putShown_0 : decode cX12_putShown 0 = .ok (.iload_n 1, 1) := by decide +kernel
theorem dX12_putShown_1 : decode cX12_putShown 1 = .ok (.bipush 32, 2) := by decide +kernel
theorem dX12_putShown_3 : decode cX12_putShown 3 = .ok (.bipush 126, 2) := by decide +kernel
theorem dX12_putShown_5 : decode cX12_putShown 5 = .ok (.invokestatic 67, 3) := by decide +kernel
theorem dX12_putShown_8 : decode cX12_putShown 8 = .ok (.ifCond .eq 16, 3) := by decide +kernel
theorem dX12_putShown_11 : decode cX12_putShown 11 = .ok (.aload_n 0, 1) := by decide +kernel
theorem dX12_putShown_12 : decode cX12_putShown 12 = .ok (.bipush 32, 2) := by decide +kernel
theorem dX12_putShown_14 : decode cX12_putShown 14 = .ok (.iconst 2, 1) := by decide +kernel
theorem dX12_putShown_15 : decode cX12_putShown 15 = .ok (.invokevirtual 181, 3) := by decide +kernel
theorem dX12_putShown_18 : decode cX12_putShown 18 = .ok (.aload_n 0, 1) := by decide +kernel
theorem dX12_putShown_19 : decode cX12_putShown 19 = .ok (.iload_n 1, 1) := by decide +kernel
theorem dX12_putShown_20 : decode cX12_putShown 20 = .ok (.invokevirtual 87, 3) := by decide +kernel
theorem dX12_putShown_23 : decode cX12_putShown 23 = .ok (.return_, 1) := by decide +kernel
theorem dX12_putShown_24 : decode cX12_putShown 24 = .ok (.iload_n 1, 1) := by decide +kernel
theorem dX12_putShown_25 : decode cX12_putShown 25 = .ok (.ifCond .ne 8, 3) := by decide +kernel
theorem dX12_putShown_28 : decode cX12_putShown 28 = .ok (.bipush 48, 2) := by decide +kernel
theorem dX12_putShown_30 : decode cX12_putShown 30 = .ok (.goto 81, 3) := by decide +kernel
theorem dX12_putShown_33 : decode cX12_putShown 33 = .ok (.iload_n 1, 1) := by decide +kernel
theorem dX12_putShown_34 : decode cX12_putShown 34 = .ok (.bipush 7, 2) := by decide +kernel
theorem dX12_putShown_36 : decode cX12_putShown 36 = .ok (.if_icmp .ne 8, 3) := by decide +kernel
theorem dX12_putShown_39 : decode cX12_putShown 39 = .ok (.bipush 97, 2) := by decide +kernel
theorem dX12_putShown_41 : decode cX12_putShown 41 = .ok (.goto 70, 3) := by decide +kernel
theorem dX12_putShown_44 : decode cX12_putShown 44 = .ok (.iload_n 1, 1) := by decide +kernel
theorem dX12_putShown_45 : decode cX12_putShown 45 = .ok (.bipush 8, 2) := by decide +kernel
theorem dX12_putShown_47 : decode cX12_putShown 47 = .ok (.if_icmp .ne 8, 3) := by decide +kernel
theorem dX12_putShown_50 : decode cX12_putShown 50 = .ok (.bipush 98, 2) := by decide +kernel
theorem dX12_putShown_52 : decode cX12_putShown 52 = .ok (.goto 59, 3) := by decide +kernel
theorem dX12_putShown_55 : decode cX12_putShown 55 = .ok (.iload_n 1, 1) := by decide +kernel
theorem dX12_putShown_56 : decode cX12_putShown 56 = .ok (.bipush 9, 2) := by decide +kernel
theorem dX12_putShown_58 : decode cX12_putShown 58 = .ok (.if_icmp .ne 8, 3) := by decide +kernel
theorem dX12_putShown_61 : decode cX12_putShown 61 = .ok (.bipush 116, 2) := by decide +kernel
theorem dX12_putShown_63 : decode cX12_putShown 63 = .ok (.goto 48, 3) := by decide +kernel
theorem dX12_putShown_66 : decode cX12_putShown 66 = .ok (.iload_n 1, 1) := by decide +kernel
theorem dX12_putShown_67 : decode cX12_putShown 67 = .ok (.bipush 10, 2) := by decide +kernel
theorem dX12_putShown_69 : decode cX12_putShown 69 = .ok (.if_icmp .ne 8, 3) := by decide +kernel
theorem dX12_putShown_72 : decode cX12_putShown 72 = .ok (.bipush 110, 2) := by decide +kernel
theorem dX12_putShown_74 : decode cX12_putShown 74 = .ok (.goto 37, 3) := by decide +kernel
theorem dX12_putShown_77 : decode cX12_putShown 77 = .ok (.iload_n 1, 1) := by decide +kernel
theorem dX12_putShown_78 : decode cX12_putShown 78 = .ok (.bipush 11, 2) := by decide +kernel
