theorem dX12_fill_18 : decode cX12_fill 18 = .ok (.castore, 1) := by decide +kernel
theorem dX12_fill_19 : decode cX12_fill 19 = .ok (.aload_n 0, 1) := by decide +kernel
theorem dX12_fill_20 : decode cX12_fill 20 = .ok (.dup, 1) := by decide +kernel
theorem dX12_fill_21 : decode cX12_fill 21 = .ok (.getfield 78, 3) := by decide +kernel
theorem dX12_fill_24 : decode cX12_fill 24 = .ok (.iconst 1, 1) := by decide +kernel
theorem dX12_fill_25 : decode cX12_fill 25 = .ok (.iadd, 1) := by decide +kernel
theorem dX12_fill_26 : decode cX12_fill 26 = .ok (.putfield 78, 3) := by decide +kernel
theorem dX12_fill_29 : decode cX12_fill 29 = .ok (.goto (-29), 3) := by decide +kernel
theorem dX12_fill_32 : decode cX12_fill 32 = .ok (.return_, 1) := by decide +kernel
theorem dX12_putDigits_0 : decode cX12_putDigits 0 = .ok (.aload_n 0, 1) := by decide +kernel
theorem dX12_putDigits_1 : decode cX12_putDigits 1 = .ok (.getfield 78, 3) := by decide +kernel
theorem dX12_putDigits_4 : decode cX12_putDigits 4 = .ok (.iconst 1, 1) := by decide +kernel
theorem dX12_putDigits_5 : decode cX12_putDigits 5 = .ok (.isub, 1) := by decide +kernel
theorem dX12_putDigits_6 : decode cX12_putDigits 6 = .ok (.istore_n 1, 1) := by decide +kernel
theorem dX12_putDigits_7 : decode cX12_putDigits 7 = .ok (.iload_n 1, 1) := by decide +kernel
theorem dX12_putDigits_8 : decode cX12_putDigits 8 = .ok (.ifCond .lt 19, 3) := by decide +kernel
theorem dX12_putDigits_11 : decode cX12_putDigits 11 = .ok (.aload_n 0, 1) := by decide +kernel
theorem dX12_putDigits_12 : decode cX12_putDigits 12 = .ok (.aload_n 0, 1) := by decide +kernel
theorem dX12_putDigits_13 : decode cX12_putDigits 13 = .ok (.getfield 44, 3) := by decide +kernel
theorem dX12_putDigits_16 : decode cX12_putDigits 16 = .ok (.iload_n 1, 1) := by decide +kernel
theorem dX12_putDigits_17 : decode cX12_putDigits 17 = .ok (.caload, 1) := by decide +kernel
theorem dX12_putDigits_18 : decode cX12_putDigits 18 = .ok (.invokevirtual 87, 3) := by decide +kernel
theorem dX12_putDigits_21 : decode cX12_putDigits 21 = .ok (.iinc 1 (-1), 3) := by decide +kernel
theorem dX12_putDigits_24 : decode cX12_putDigits 24 = .ok (.goto (-17), 3) := by decide +kernel
theorem dX12_putDigits_27 : decode cX12_putDigits 27 = .ok (.return_, 1) := by decide +kernel
theorem dX12_putMany_0 : decode cX12_putMany 0 = .ok (.iconst 0, 1) := by decide +kernel
theorem dX12_putMany_1 : decode cX12_putMany 1 = .ok (.istore_n 3, 1) := by decide +kernel
theorem dX12_putMany_2 : decode cX12_putMany 2 = .ok (.iload_n 3, 1) := by decide +kernel
theorem dX12_putMany_3 : decode cX12_putMany 3 = .ok (.iload_n 2, 1) := by decide +kernel
theorem dX12_putMany_4 : decode cX12_putMany 4 = .ok (.if_icmp .ge 14, 3) := by decide +kernel
theorem dX12_putMany_7 : decode cX12_putMany 7 = .ok (.aload_n 0, 1) := by decide +kernel
theorem dX12_putMany_8 : decode cX12_putMany 8 = .ok (.iload_n 1, 1) := by decide +kernel
theorem dX12_putMany_9 : decode cX12_putMany 9 = .ok (.invokevirtual 87, 3) := by decide +kernel
theorem dX12_putMany_12 : decode cX12_putMany 12 = .ok (.iinc 3 1, 3) := by decide +kernel
theorem dX12_putMany_15 : decode cX12_putMany 15 = .ok (.goto (-13), 3) := by decide +kernel
theorem dX12_putMany_18 : decode cX12_putMany 18 = .ok (.return_, 1) := by decide +kernel
theorem dX12_charAt_0 : decode cX12_charAt 0 = .ok (.iload_n 1, 1) := by decide +kernel
theorem dX12_charAt_1 : decode cX12_charAt 1 = .ok (.aload_n 0, 1) := by decide +kernel
theorem dX12_charAt_2 : decode cX12_charAt 2 = .ok (.getfield 53, 3) := by decide +kernel
theorem dX12_charAt_5 : decode cX12_charAt 5 = .ok (.if_icmp .ge 12, 3) := by decide +kernel
theorem dX12_charAt_8 : decode cX12_charAt 8 = .ok (.aload_n 0, 1) := by decide +kernel
theorem dX12_charAt_9 : decode cX12_charAt 9 = .ok (.getfield 7, 3) := by decide +kernel
theorem dX12_charAt_12 : decode cX12_charAt 12 = .ok (.iload_n 1, 1) := by decide +kernel
theorem dX12_charAt_13 : decode cX12_charAt 13 = .ok (.caload, 1) := by decide +kernel
theorem dX12_charAt_14 : decode cX12_charAt 14 = .ok (.goto 4, 3) := by decide +kernel
theorem dX12_charAt_17 : decode cX12_charAt 17 = .ok (.iconst 0, 1) := by decide +kernel
theorem dX12_charAt_18 : decode cX12_charAt 18 = .ok (.ireturn, 1) := by decide +kernel
theorem dX12_isOctal_0 : decode cX12_isOctal 0 = .ok (.iload_n 0, 1) := by decide +kernel
theorem dX12_isOctal_1 : decode cX12_isOctal 1 = .ok (.bipush 48, 2) := by decide +kernel
theorem dX12_isOctal_3 : decode cX12_isOctal 3 = .ok (.if_icmp .lt 13, 3) := by decide +kernel
theorem dX12_isOctal_6 : decode cX12_isOctal 6 = .ok (.iload_n 0, 1) := by decide +kernel
theorem dX12_isOctal_7 : decode cX12_isOctal 7 = .ok (.bipush 55, 2) := by decide +kernel
theorem dX12_isOctal_9 : decode cX12_isOctal 9 = .ok (.if_icmp .gt 7, 3) := by decide +kernel
theorem dX12_isOctal_12 : decode cX12_isOctal 12 = .ok (.iconst 1, 1) := by decide +kernel
theorem dX12_isOctal_13 : decode cX12_isOctal 13 = .ok (.goto 4, 3) := by decide +kernel
theorem dX12_isOctal_16 : decode cX12_isOctal 16 = .ok (.iconst 0, 1) := by decide +kernel
theorem dX12_isOctal_17 : decode cX12_isOctal 17 = .ok (.ireturn, 1) := by decide +kernel
theorem dX12_escapeOf_0 : decode cX12_escapeOf 0 = .ok (.iload_n 0, 1) := by decide +kernel
theorem dX12_escapeOf_1 : decode cX12_escapeOf 1 = .ok (.bipush 92, 2) := by decide +kernel
theorem dX12_escapeOf_3 : decode cX12_escapeOf 3 = .ok (.if_icmp .ne 8, 3) := by decide +kernel
theorem dX12_escapeOf_6 : decode cX12_escapeOf 6 = .ok (.bipush 92, 2) := by decide +kernel
theorem dX12_escapeOf_8 : decode cX12_escapeOf 8 = .ok (.goto 81, 3) := by decide +kernel
theorem dX12_escapeOf_11 : decode cX12_escapeOf 11 = .ok (.iload_n 0, 1) := by decide +kernel
theorem dX12_escapeOf_12 : decode cX12_escapeOf 12 = .ok (.bipush 97, 2) := by decide +kernel
theorem dX12_escapeOf_14 : decode cX12_escapeOf 14 = .ok (.if_icmp .ne 8, 3) := by decide +kernel
theorem dX12_escapeOf_17 : decode cX12_escapeOf 17 = .ok (.bipush 7, 2) := by decide +kernel
theorem dX12_escapeOf_19 : decode cX12_escapeOf 19 = .ok (.goto 70, 3) := by decide +kernel
theorem dX12_escapeOf_22 : decode cX12_escapeOf 22 = .ok (.iload_n 0, 1) := by decide +kernel
theorem dX12_escapeOf_23 : decode cX12_escapeOf 23 = .ok (.bipush 98, 2) := by decide +kernel
theorem dX12_escapeOf_25 : decode cX12_escapeOf 25 = .ok (.if_icmp .ne 8, 3) := by decide +kernel
theorem dX12_escapeOf_28 : decode cX12_escapeOf 28 = .ok (.bipush 8, 2) := by decide +kernel
theorem dX12_escapeOf_30 : decode cX12_escapeOf 30 = .ok (.goto 59, 3) := by decide +kernel
theorem dX12_escapeOf_33 : decode cX12_escapeOf 33 = .ok (.iload_n 0, 1) := by decide +kernel
theorem dX12_escapeOf_34 : decode cX12_escapeOf 34 = .ok (.bipush 102, 2) := by decide +kernel
theorem dX12_escapeOf_36 : decode cX12_escapeOf 36 = .ok (.if_icmp .ne 8, 3) := by decide +kernel
theorem dX12_escapeOf_39 : decode cX12_escapeOf 39 = .ok (.bipush 12, 2) := by decide +kernel
theorem dX12_escapeOf_41 : decode cX12_escapeOf 41 = .ok (.goto 48, 3) := by decide +kernel
theorem dX12_escapeOf_44 : decode cX12_escapeOf 44 = .ok (.iload_n 0, 1) := by decide +kernel
theorem dX12_escapeOf_45 : decode cX12_escapeOf 45 = .ok (.bipush 110, 2) := by decide +kernel
theorem dX12_escapeOf_47 : decode cX12_escapeOf 47 = .ok (.if_icmp .ne 8, 3) := by decide +kernel
theorem dX12_escapeOf_50 : decode cX12_escapeOf 50 = .ok (.bipush 10, 2) := by decide +kernel
theorem dX12_escapeOf_52 : decode cX12_escapeOf 52 = .ok (.goto 37, 3) := by decide +kernel
theorem dX12_escapeOf_55 : decode cX12_escapeOf 55 = .ok (.iload_n 0, 1) := by decide +kernel
theorem dX12_escapeOf_56 : decode cX12_escapeOf 56 = .ok (.bipush 114, 2) := by decide +kernel
theorem dX12_escapeOf_58 : decode cX12_escapeOf 58 = .ok (.if_icmp .ne 8, 3) := by decide +kernel
theorem dX12_escapeOf_61 : decode cX12_escapeOf 61 = .ok (.bipush 13, 2) := by decide +kernel
theorem dX12_escapeOf_63 : decode cX12_escapeOf 63 = .ok (.goto 26, 3) := by decide +kernel
theorem dX12_escapeOf_66 : decode cX12_escapeOf 66 = .ok (.iload_n 0, 1) := by decide +kernel
theorem dX12_escapeOf_67 : decode cX12_escapeOf 67 = .ok (.bipush 116, 2) := by decide +kernel
theorem dX12_escapeOf_69 : decode cX12_escapeOf 69 = .ok (.if_icmp .ne 8, 3) := by decide +kernel
theorem dX12_escapeOf_72 : decode cX12_escapeOf 72 = .ok (.bipush 9, 2) := by decide +kernel
theorem dX12_escapeOf_74 : decode cX12_escapeOf 74 = .ok (.goto 15, 3) := by decide +kernel
theorem dX12_escapeOf_77 : decode cX12_escapeOf 77 = .ok (.iload_n 0, 1) := by decide +kernel
theorem dX12_escapeOf_78 : decode cX12_escapeOf 78 = .ok (.bipush 118, 2) := by decide +kernel
theorem dX12_escapeOf_80 : decode cX12_escapeOf 80 = .ok (.if_icmp .ne 8, 3) := by decide +kernel
theorem dX12_escapeOf_83 : decode cX12_escapeOf 83 = .ok (.bipush 11, 2) := by decide +kernel
theorem dX12_escapeOf_85 : decode cX12_escapeOf 85 = .ok (.goto 4, 3) := by decide +kernel
theorem dX12_escapeOf_88 : decode cX12_escapeOf 88 = .ok (.iconst (-1), 1) := by decide +kernel
theorem dX12_escapeOf_89 : decode cX12_escapeOf 89 = .ok (.ireturn, 1) := by decide +kernel
theorem dX12_readDirective_0 : decode cX12_readDirective 0 = .ok (.aload_n 0, 1) := by decide +kernel
theorem dX12_readDirective_1 : decode cX12_readDirective 1 = .ok (.iconst 0, 1) := by decide +kernel
theorem dX12_readDirective_2 : decode cX12_readDirective 2 = .ok (.putfield 91, 3) := by decide +kernel
theorem dX12_readDirective_5 : decode cX12_readDirective 5 = .ok (.aload_n 0, 1) := by decide +kernel
theorem dX12_readDirective_6 : decode cX12_readDirective 6 = .ok (.iconst 0, 1) := by decide +kernel
theorem dX12_readDirective_7 : decode cX12_readDirective 7 = .ok (.putfield 94, 3) := by decide +kernel
theorem dX12_readDirective_10 : decode cX12_readDirective 10 = .ok (.aload_n 0, 1) := by decide +kernel
theorem dX12_readDirective_11 : decode cX12_readDirective 11 = .ok (.iconst 0, 1) := by decide +kernel
theorem dX12_readDirective_12 : decode cX12_readDirective 12 = .ok (.putfield 97, 3) := by decide +kernel
theorem dX12_readDirective_15 : decode cX12_readDirective 15 = .ok (.aload_n 0, 1) := by decide +kernel
theorem dX12_readDirective_16 : decode cX12_readDirective 16 = .ok (.iconst 0, 1) := by decide +kernel
theorem dX12_readDirective_17 : decode cX12_readDirective 17 = .ok (.putfield 100, 3) := by decide +kernel
theorem dX12_readDirective_20 : decode cX12_readDirective 20 = .ok (.aload_n 0, 1) := by decide +kernel
theorem dX12_readDirective_21 : decode cX12_readDirective 21 = .ok (.iconst 0, 1) := by decide +kernel
theorem dX12_readDirective_22 : decode cX12_readDirective 22 = .ok (.putfield 103, 3) := by decide +kernel
theorem dX12_readDirective_25 : decode cX12_readDirective 25 = .ok (.iconst 1, 1) := by decide +kernel
theorem dX12_readDirective_26 : decode cX12_readDirective 26 = .ok (.istore_n 1, 1) := by decide +kernel
theorem dX12_readDirective_27 : decode cX12_readDirective 27 = .ok (.iload_n 1, 1) := by decide +kernel
theorem dX12_readDirective_28 : decode cX12_readDirective 28 = .ok (.ifCond .eq 182, 3) := by decide +kernel
theorem dX12_readDirective_31 : decode cX12_readDirective 31 = .ok (.aload_n 0, 1) := by decide +kernel
theorem dX12_readDirective_32 : decode cX12_readDirective 32 = .ok (.aload_n 0, 1) := by decide +kernel
theorem dX12_readDirective_33 : decode cX12_readDirective 33 = .ok (.getfield 106, 3) := by decide +kernel
theorem dX12_readDirective_36 : decode cX12_readDirective 36 = .ok (.invokevirtual 109, 3) := by decide +kernel
theorem dX12_readDirective_39 : decode cX12_readDirective 39 = .ok (.istore_n 2, 1) := by decide +kernel
theorem dX12_readDirective_40 : decode cX12_readDirective 40 = .ok (.aload_n 0, 1) := by decide +kernel
theorem dX12_readDirective_41 : decode cX12_readDirective 41 = .ok (.aload_n 0, 1) := by decide +kernel
theorem dX12_readDirective_42 : decode cX12_readDirective 42 = .ok (.getfield 91, 3) := by decide +kernel
theorem dX12_readDirective_45 : decode cX12_readDirective 45 = .ok (.ifCond .ne 9, 3) := by decide +kernel
theorem dX12_readDirective_48 : decode cX12_readDirective 48 = .ok (.iload_n 2, 1) := by decide +kernel
theorem dX12_readDirective_49 : decode cX12_readDirective 49 = .ok (.bipush 45, 2) := by decide +kernel
theorem dX12_readDirective_51 : decode cX12_readDirective 51 = .ok (.if_icmp .ne 7, 3) := by decide +kernel
theorem dX12_readDirective_54 : decode cX12_readDirective 54 = .ok (.iconst 1, 1) := by decide +kernel
theorem dX12_readDirective_55 : decode cX12_readDirective 55 = .ok (.goto 4, 3) := by decide +kernel
theorem dX12_readDirective_58 : decode cX12_readDirective 58 = .ok (.iconst 0, 1) := by decide +kernel
theorem dX12_readDirective_59 : decode cX12_readDirective 59 = .ok (.putfield 91, 3) := by decide +kernel
theorem dX12_readDirective_62 : decode cX12_readDirective 62 = .ok (.aload_n 0, 1) := by decide +kernel
theorem dX12_readDirective_63 : decode cX12_readDirective 63 = .ok (.aload_n 0, 1) := by decide +kernel
theorem dX12_readDirective_64 : decode cX12_readDirective 64 = .ok (.getfield 94, 3) := by decide +kernel
theorem dX12_readDirective_67 : decode cX12_readDirective 67 = .ok (.ifCond .ne 9, 3) := by decide +kernel
theorem dX12_readDirective_70 : decode cX12_readDirective 70 = .ok (.iload_n 2, 1) := by decide +kernel
theorem dX12_readDirective_71 : decode cX12_readDirective 71 = .ok (.bipush 43, 2) := by decide +kernel
theorem dX12_readDirective_73 : decode cX12_readDirective 73 = .ok (.if_icmp .ne 7, 3) := by decide +kernel
theorem dX12_readDirective_76 : decode cX12_readDirective 76 = .ok (.iconst 1, 1) := by decide +kernel
theorem dX12_readDirective_77 : decode cX12_readDirective 77 = .ok (.goto 4, 3) := by decide +kernel
theorem dX12_readDirective_80 : decode cX12_readDirective 80 = .ok (.iconst 0, 1) := by decide +kernel
theorem dX12_readDirective_81 : decode cX12_readDirective 81 = .ok (.putfield 94, 3) := by decide +kernel
theorem dX12_readDirective_84 : decode cX12_readDirective 84 = .ok (.aload_n 0, 1) := by decide +kernel
theorem dX12_readDirective_85 : decode cX12_readDirective 85 = .ok (.aload_n 0, 1) := by decide +kernel
theorem dX12_readDirective_86 : decode cX12_readDirective 86 = .ok (.getfield 97, 3) := by decide +kernel
theorem dX12_readDirective_89 : decode cX12_readDirective 89 = .ok (.ifCond .ne 9, 3) := by decide +kernel
theorem dX12_readDirective_92 : decode cX12_readDirective 92 = .ok (.iload_n 2, 1) := by decide +kernel
theorem dX12_readDirective_93 : decode cX12_readDirective 93 = .ok (.bipush 32, 2) := by decide +kernel
theorem dX12_readDirective_95 : decode cX12_readDirective 95 = .ok (.if_icmp .ne 7, 3) := by decide +kernel
theorem dX12_readDirective_98 : decode cX12_readDirective 98 = .ok (.iconst 1, 1) := by decide +kernel
theorem dX12_readDirective_99 : decode cX12_readDirective 99 = .ok (.goto 4, 3) := by decide +kernel
theorem dX12_readDirective_102 : decode cX12_readDirective 102 = .ok (.iconst 0, 1) := by decide +kernel
theorem dX12_readDirective_103 : decode cX12_readDirective 103 = .ok (.putfield 97, 3) := by decide +kernel
theorem dX12_readDirective_106 : decode cX12_readDirective 106 = .ok (.aload_n 0, 1) := by decide +kernel
theorem dX12_readDirective_107 : decode cX12_readDirective 107 = .ok (.aload_n 0, 1) := by decide +kernel
theorem dX12_readDirective_108 : decode cX12_readDirective 108 = .ok (.getfield 100, 3) := by decide +kernel
theorem dX12_readDirective_111 : decode cX12_readDirective 111 = .ok (.ifCond .ne 9, 3) := by decide +kernel
theorem dX12_readDirective_114 : decode cX12_readDirective 114 = .ok (.iload_n 2, 1) := by decide +kernel
theorem dX12_readDirective_115 : decode cX12_readDirective 115 = .ok (.bipush 35, 2) := by decide +kernel
theorem dX12_readDirective_117 : decode cX12_readDirective 117 = .ok (.if_icmp .ne 7, 3) := by decide +kernel
theorem dX12_readDirective_120 : decode cX12_readDirective 120 = .ok (.iconst 1, 1) := by decide +kernel
theorem dX12_readDirective_121 : decode cX12_readDirective 121 = .ok (.goto 4, 3) := by decide +kernel
theorem dX12_readDirective_124 : decode cX12_readDirective 124 = .ok (.iconst 0, 1) := by decide +kernel
theorem dX12_readDirective_125 : decode cX12_readDirective 125 = .ok (.putfield 100, 3) := by decide +kernel
theorem dX12_readDirective_128 : decode cX12_readDirective 128 = .ok (.aload_n 0, 1) := by decide +kernel
theorem dX12_readDirective_129 : decode cX12_readDirective 129 = .ok (.aload_n 0, 1) := by decide +kernel
theorem dX12_readDirective_130 : decode cX12_readDirective 130 = .ok (.getfield 103, 3) := by decide +kernel
theorem dX12_readDirective_133 : decode cX12_readDirective 133 = .ok (.ifCond .ne 9, 3) := by decide +kernel
theorem dX12_readDirective_136 : decode cX12_readDirective 136 = .ok (.iload_n 2, 1) := by decide +kernel
theorem dX12_readDirective_137 : decode cX12_readDirective 137 = .ok (.bipush 48, 2) := by decide +kernel
theorem dX12_readDirective_139 : decode cX12_readDirective 139 = .ok (.if_icmp .ne 7, 3) := by decide +kernel
theorem dX12_readDirective_142 : decode cX12_readDirective 142 = .ok (.iconst 1, 1) := by decide +kernel
theorem dX12_readDirective_143 : decode cX12_readDirective 143 = .ok (.goto 4, 3) := by decide +kernel
theorem dX12_readDirective_146 : decode cX12_readDirective 146 = .ok (.iconst 0, 1) := by decide +kernel
theorem dX12_readDirective_147 : decode cX12_readDirective 147 = .ok (.putfield 103, 3) := by decide +kernel
theorem dX12_readDirective_150 : decode cX12_readDirective 150 = .ok (.iload_n 2, 1) := by decide +kernel
theorem dX12_readDirective_151 : decode cX12_readDirective 151 = .ok (.bipush 45, 2) := by decide +kernel
theorem dX12_readDirective_153 : decode cX12_readDirective 153 = .ok (.if_icmp .eq 27, 3) := by decide +kernel
theorem dX12_readDirective_156 : decode cX12_readDirective 156 = .ok (.iload_n 2, 1) := by decide +kernel
theorem dX12_readDirective_157 : decode cX12_readDirective 157 = .ok (.bipush 43, 2) := by decide +kernel
theorem dX12_readDirective_159 : decode cX12_readDirective 159 = .ok (.if_icmp .eq 21, 3) := by decide +kernel
theorem dX12_readDirective_162 : decode cX12_readDirective 162 = .ok (.iload_n 2, 1) := by decide +kernel
theorem dX12_readDirective_163 : decode cX12_readDirective 163 = .ok (.bipush 32, 2) := by decide +kernel
theorem dX12_readDirective_165 : decode cX12_readDirective 165 = .ok (.if_icmp .eq 15, 3) := by decide +kernel
theorem dX12_readDirective_168 : decode cX12_readDirective 168 = .ok (.iload_n 2, 1) := by decide +kernel
theorem dX12_readDirective_169 : decode cX12_readDirective 169 = .ok (.bipush 35, 2) := by decide +kernel
theorem dX12_readDirective_171 : decode cX12_readDirective 171 = .ok (.if_icmp .eq 9, 3) := by decide +kernel
theorem dX12_readDirective_174 : decode cX12_readDirective 174 = .ok (.iload_n 2, 1) := by decide +kernel
theorem dX12_readDirective_175 : decode cX12_readDirective 175 = .ok (.bipush 48, 2) := by decide +kernel
theorem dX12_readDirective_177 : decode cX12_readDirective 177 = .ok (.if_icmp .ne 7, 3) := by decide +kernel
theorem dX12_readDirective_180 : decode cX12_readDirective 180 = .ok (.iconst 1, 1) := by decide +kernel
theorem dX12_readDirective_181 : decode cX12_readDirective 181 = .ok (.goto 4, 3) := by decide +kernel
theorem dX12_readDirective_184 : decode cX12_readDirective 184 = .ok (.iconst 0, 1) := by decide +kernel
theorem dX12_readDirective_185 : decode cX12_readDirective 185 = .ok (.istore_n 1, 1) := by decide +kernel
theorem dX12_readDirective_186 : decode cX12_readDirective 186 = .ok (.aload_n 0, 1) := by decide +kernel
theorem dX12_readDirective_187 : decode cX12_readDirective 187 = .ok (.iload_n 1, 1) := by decide +kernel
theorem dX12_readDirective_188 : decode cX12_readDirective 188 = .ok (.ifCond .eq 12, 3) := by decide +kernel
theorem dX12_readDirective_191 : decode cX12_readDirective 191 = .ok (.aload_n 0, 1) := by decide +kernel
theorem dX12_readDirective_192 : decode cX12_readDirective 192 = .ok (.getfield 106, 3) := by decide +kernel
theorem dX12_readDirective_195 : decode cX12_readDirective 195 = .ok (.iconst 1, 1) := by decide +kernel
theorem dX12_readDirective_196 : decode cX12_readDirective 196 = .ok (.iadd, 1) := by decide +kernel
theorem dX12_readDirective_197 : decode cX12_readDirective 197 = .ok (.goto 7, 3) := by decide +kernel
theorem dX12_readDirective_200 : decode cX12_readDirective 200 = .ok (.aload_n 0, 1) := by decide +kernel
theorem dX12_readDirective_201 : decode cX12_readDirective 201 = .ok (.getfield 106, 3) := by decide +kernel
theorem dX12_readDirective_204 : decode cX12_readDirective 204 = .ok (.putfield 106, 3) := by decide +kernel
theorem dX12_readDirective_207 : decode cX12_readDirective 207 = .ok (.goto (-180), 3) := by decide +kernel
theorem dX12_readDirective_210 : decode cX12_readDirective 210 = .ok (.aload_n 0, 1) := by decide +kernel
theorem dX12_readDirective_211 : decode cX12_readDirective 211 = .ok (.iconst 0, 1) := by decide +kernel
theorem dX12_readDirective_212 : decode cX12_readDirective 212 = .ok (.putfield 113, 3) := by decide +kernel
theorem dX12_readDirective_215 : decode cX12_readDirective 215 = .ok (.aload_n 0, 1) := by decide +kernel
theorem dX12_readDirective_216 : decode cX12_readDirective 216 = .ok (.aload_n 0, 1) := by decide +kernel
theorem dX12_readDirective_217 : decode cX12_readDirective 217 = .ok (.getfield 106, 3) := by decide +kernel
theorem dX12_readDirective_220 : decode cX12_readDirective 220 = .ok (.invokevirtual 109, 3) := by decide +kernel
theorem dX12_readDirective_223 : decode cX12_readDirective 223 = .ok (.bipush 42, 2) := by decide +kernel
theorem dX12_readDirective_225 : decode cX12_readDirective 225 = .ok (.if_icmp .ne 22, 3) := by decide +kernel
theorem dX12_readDirective_228 : decode cX12_readDirective 228 = .ok (.aload_n 0, 1) := by decide +kernel
theorem dX12_readDirective_229 : decode cX12_readDirective 229 = .ok (.bipush (-2), 2) := by decide +kernel
theorem dX12_readDirective_231 : decode cX12_readDirective 231 = .ok (.putfield 113, 3) := by decide +kernel
theorem dX12_readDirective_234 : decode cX12_readDirective 234 = .ok (.aload_n 0, 1) := by decide +kernel
theorem dX12_readDirective_235 : decode cX12_readDirective 235 = .ok (.dup, 1) := by decide +kernel
theorem dX12_readDirective_236 : decode cX12_readDirective 236 = .ok (.getfield 106, 3) := by decide +kernel
theorem dX12_readDirective_239 : decode cX12_readDirective 239 = .ok (.iconst 1, 1) := by decide +kernel
theorem dX12_readDirective_240 : decode cX12_readDirective 240 = .ok (.iadd, 1) := by decide +kernel
theorem dX12_readDirective_241 : decode cX12_readDirective 241 = .ok (.putfield 106, 3) := by decide +kernel
theorem dX12_readDirective_244 : decode cX12_readDirective 244 = .ok (.goto 11, 3) := by decide +kernel
theorem dX12_readDirective_247 : decode cX12_readDirective 247 = .ok (.aload_n 0, 1) := by decide +kernel
theorem dX12_readDirective_248 : decode cX12_readDirective 248 = .ok (.aload_n 0, 1) := by decide +kernel
theorem dX12_readDirective_249 : decode cX12_readDirective 249 = .ok (.invokevirtual 116, 3) := by decide +kernel
theorem dX12_readDirective_252 : decode cX12_readDirective 252 = .ok (.putfield 113, 3) := by decide +kernel
theorem dX12_readDirective_255 : decode cX12_readDirective 255 = .ok (.aload_n 0, 1) := by decide +kernel
theorem dX12_readDirective_256 : decode cX12_readDirective 256 = .ok (.iconst (-1), 1) := by decide +kernel
theorem dX12_readDirective_257 : decode cX12_readDirective 257 = .ok (.putfield 120, 3) := by decide +kernel
theorem dX12_readDirective_260 : decode cX12_readDirective 260 = .ok (.aload_n 0, 1) := by decide +kernel
theorem dX12_readDirective_261 : decode cX12_readDirective 261 = .ok (.aload_n 0, 1) := by decide +kernel
theorem dX12_readDirective_262 : decode cX12_readDirective 262 = .ok (.getfield 106, 3) := by decide +kernel
theorem dX12_readDirective_265 : decode cX12_readDirective 265 = .ok (.invokevirtual 109, 3) := by decide +kernel
theorem dX12_readDirective_268 : decode cX12_readDirective 268 = .ok (.bipush 46, 2) := by decide +kernel
theorem dX12_readDirective_270 : decode cX12_readDirective 270 = .ok (.if_icmp .ne 53, 3) := by decide +kernel
theorem dX12_readDirective_273 : decode cX12_readDirective 273 = .ok (.aload_n 0, 1) := by decide +kernel
theorem dX12_readDirective_274 : decode cX12_readDirective 274 = .ok (.dup, 1) := by decide +kernel
theorem dX12_readDirective_275 : decode cX12_readDirective 275 = .ok (.getfield 106, 3) := by decide +kernel
theorem dX12_readDirective_278 : decode cX12_readDirective 278 = .ok (.iconst 1, 1) := by decide +kernel
theorem dX12_readDirective_279 : decode cX12_readDirective 279 = .ok (.iadd, 1) := by decide +kernel
theorem dX12_readDirective_280 : decode cX12_readDirective 280 = .ok (.putfield 106, 3) := by decide +kernel
theorem dX12_readDirective_283 : decode cX12_readDirective 283 = .ok (.aload_n 0, 1) := by decide +kernel
theorem dX12_readDirective_284 : decode cX12_readDirective 284 = .ok (.aload_n 0, 1) := by decide +kernel
theorem dX12_readDirective_285 : decode cX12_readDirective 285 = .ok (.getfield 106, 3) := by decide +kernel
theorem dX12_readDirective_288 : decode cX12_readDirective 288 = .ok (.invokevirtual 109, 3) := by decide +kernel
theorem dX12_readDirective_291 : decode cX12_readDirective 291 = .ok (.bipush 42, 2) := by decide +kernel
theorem dX12_readDirective_293 : decode cX12_readDirective 293 = .ok (.if_icmp .ne 22, 3) := by decide +kernel
theorem dX12_readDirective_296 : decode cX12_readDirective 296 = .ok (.aload_n 0, 1) := by decide +kernel
theorem dX12_readDirective_297 : decode cX12_readDirective 297 = .ok (.bipush (-3), 2) := by decide +kernel
theorem dX12_readDirective_299 : decode cX12_readDirective 299 = .ok (.putfield 120, 3) := by decide +kernel
theorem dX12_readDirective_302 : decode cX12_readDirective 302 = .ok (.aload_n 0, 1) := by decide +kernel
theorem dX12_readDirective_303 : decode cX12_readDirective 303 = .ok (.dup, 1) := by decide +kernel
theorem dX12_readDirective_304 : decode cX12_readDirective 304 = .ok (.getfield 106, 3) := by decide +kernel
theorem dX12_readDirective_307 : decode cX12_readDirective 307 = .ok (.iconst 1, 1) := by decide +kernel
theorem dX12_readDirective_308 : decode cX12_readDirective 308 = .ok (.iadd, 1) := by decide +kernel
theorem dX12_readDirective_309 : decode cX12_readDirective 309 = .ok (.putfield 106, 3) := by decide +kernel
theorem dX12_readDirective_312 : decode cX12_readDirective 312 = .ok (.goto 11, 3) := by decide +kernel
theorem dX12_readDirective_315 : decode cX12_readDirective 315 = .ok (.aload_n 0, 1) := by decide +kernel
theorem dX12_readDirective_316 : decode cX12_readDirective 316 = .ok (.aload_n 0, 1) := by decide +kernel
theorem dX12_readDirective_317 : decode cX12_readDirective 317 = .ok (.invokevirtual 116, 3) := by decide +kernel
theorem dX12_readDirective_320 : decode cX12_readDirective 320 = .ok (.putfield 120, 3) := by decide +kernel
theorem dX12_readDirective_323 : decode cX12_readDirective 323 = .ok (.aload_n 0, 1) := by decide +kernel
theorem dX12_readDirective_324 : decode cX12_readDirective 324 = .ok (.bipush 32, 2) := by decide +kernel
theorem dX12_readDirective_326 : decode cX12_readDirective 326 = .ok (.putfield 123, 3) := by decide +kernel
theorem dX12_readDirective_329 : decode cX12_readDirective 329 = .ok (.aload_n 0, 1) := by decide +kernel
theorem dX12_readDirective_330 : decode cX12_readDirective 330 = .ok (.aload_n 0, 1) := by decide +kernel
theorem dX12_readDirective_331 : decode cX12_readDirective 331 = .ok (.getfield 106, 3) := by decide +kernel
theorem dX12_readDirective_334 : decode cX12_readDirective 334 = .ok (.invokevirtual 109, 3) := by decide +kernel
theorem dX12_readDirective_337 : decode cX12_readDirective 337 = .ok (.istore_n 2, 1) := by decide +kernel
theorem dX12_readDirective_338 : decode cX12_readDirective 338 = .ok (.iload_n 2, 1) := by decide +kernel
theorem dX12_readDirective_339 : decode cX12_readDirective 339 = .ok (.bipush 104, 2) := by decide +kernel
theorem dX12_readDirective_341 : decode cX12_readDirective 341 = .ok (.if_icmp .eq 9, 3) := by decide +kernel
theorem dX12_readDirective_344 : decode cX12_readDirective 344 = .ok (.iload_n 2, 1) := by decide +kernel
theorem dX12_readDirective_345 : decode cX12_readDirective 345 = .ok (.bipush 108, 2) := by decide +kernel
theorem dX12_readDirective_347 : decode cX12_readDirective 347 = .ok (.if_icmp .ne 75, 3) := by decide +kernel
theorem dX12_readDirective_350 : decode cX12_readDirective 350 = .ok (.aload_n 0, 1) := by decide +kernel
theorem dX12_readDirective_351 : decode cX12_readDirective 351 = .ok (.aload_n 0, 1) := by decide +kernel
theorem dX12_readDirective_352 : decode cX12_readDirective 352 = .ok (.getfield 106, 3) := by decide +kernel
theorem dX12_readDirective_355 : decode cX12_readDirective 355 = .ok (.iconst 1, 1) := by decide +kernel
theorem dX12_readDirective_356 : decode cX12_readDirective 356 = .ok (.iadd, 1) := by decide +kernel
theorem dX12_readDirective_357 : decode cX12_readDirective 357 = .ok (.invokevirtual 109, 3) := by decide +kernel
theorem dX12_readDirective_360 : decode cX12_readDirective 360 = .ok (.iload_n 2, 1) := by decide +kernel
theorem dX12_readDirective_361 : decode cX12_readDirective 361 = .ok (.if_icmp .ne 7, 3) := by decide +kernel
theorem dX12_readDirective_364 : decode cX12_readDirective 364 = .ok (.iconst 1, 1) := by decide +kernel
theorem dX12_readDirective_365 : decode cX12_readDirective 365 = .ok (.goto 4, 3) := by decide +kernel
theorem dX12_readDirective_368 : decode cX12_readDirective 368 = .ok (.iconst 0, 1) := by decide +kernel
theorem dX12_readDirective_369 : decode cX12_readDirective 369 = .ok (.istore_n 3, 1) := by decide +kernel
theorem dX12_readDirective_370 : decode cX12_readDirective 370 = .ok (.aload_n 0, 1) := by decide +kernel
theorem dX12_readDirective_371 : decode cX12_readDirective 371 = .ok (.iload_n 2, 1) := by decide +kernel
theorem dX12_readDirective_372 : decode cX12_readDirective 372 = .ok (.bipush 108, 2) := by decide +kernel
theorem dX12_readDirective_374 : decode cX12_readDirective 374 = .ok (.if_icmp .ne 8, 3) := by decide +kernel
theorem dX12_readDirective_377 : decode cX12_readDirective 377 = .ok (.bipush 64, 2) := by decide +kernel
theorem dX12_readDirective_379 : decode cX12_readDirective 379 = .ok (.goto 14, 3) := by decide +kernel
theorem dX12_readDirective_382 : decode cX12_readDirective 382 = .ok (.iload_n 3, 1) := by decide +kernel
theorem dX12_readDirective_383 : decode cX12_readDirective 383 = .ok (.ifCond .eq 8, 3) := by decide +kernel
theorem dX12_readDirective_386 : decode cX12_readDirective 386 = .ok (.bipush 8, 2) := by decide +kernel
theorem dX12_readDirective_388 : decode cX12_readDirective 388 = .ok (.goto 5, 3) := by decide +kernel
theorem dX12_readDirective_391 : decode cX12_readDirective 391 = .ok (.bipush 16, 2) := by decide +kernel
theorem dX12_readDirective_393 : decode cX12_readDirective 393 = .ok (.putfield 123, 3) := by decide +kernel
theorem dX12_readDirective_396 : decode cX12_readDirective 396 = .ok (.aload_n 0, 1) := by decide +kernel
theorem dX12_readDirective_397 : decode cX12_readDirective 397 = .ok (.iload_n 3, 1) := by decide +kernel
theorem dX12_readDirective_398 : decode cX12_readDirective 398 = .ok (.ifCond .eq 12, 3) := by decide +kernel
theorem dX12_readDirective_401 : decode cX12_readDirective 401 = .ok (.aload_n 0, 1) := by decide +kernel
theorem dX12_readDirective_402 : decode cX12_readDirective 402 = .ok (.getfield 106, 3) := by decide +kernel
theorem dX12_readDirective_405 : decode cX12_readDirective 405 = .ok (.iconst 2, 1) := by decide +kernel
theorem dX12_readDirective_406 : decode cX12_readDirective 406 = .ok (.iadd, 1) := by decide +kernel
theorem dX12_readDirective_407 : decode cX12_readDirective 407 = .ok (.goto 9, 3) := by decide +kernel
theorem dX12_readDirective_410 : decode cX12_readDirective 410 = .ok (.aload_n 0, 1) := by decide +kernel
theorem dX12_readDirective_411 : decode cX12_readDirective 411 = .ok (.getfield 106, 3) := by decide +kernel
theorem dX12_readDirective_414 : decode cX12_readDirective 414 = .ok (.iconst 1, 1) := by decide +kernel
theorem dX12_readDirective_415 : decode cX12_readDirective 415 = .ok (.iadd, 1) := by decide +kernel
theorem dX12_readDirective_416 : decode cX12_readDirective 416 = .ok (.putfield 106, 3) := by decide +kernel
theorem dX12_readDirective_419 : decode cX12_readDirective 419 = .ok (.goto 25, 3) := by decide +kernel
theorem dX12_readDirective_422 : decode cX12_readDirective 422 = .ok (.iload_n 2, 1) := by decide +kernel
theorem dX12_readDirective_423 : decode cX12_readDirective 423 = .ok (.bipush 106, 2) := by decide +kernel
theorem dX12_readDirective_425 : decode cX12_readDirective 425 = .ok (.if_icmp .ne 19, 3) := by decide +kernel
theorem dX12_readDirective_428 : decode cX12_readDirective 428 = .ok (.aload_n 0, 1) := by decide +kernel
theorem dX12_readDirective_429 : decode cX12_readDirective 429 = .ok (.bipush 64, 2) := by decide +kernel
theorem dX12_readDirective_431 : decode cX12_readDirective 431 = .ok (.putfield 123, 3) := by decide +kernel
theorem dX12_readDirective_434 : decode cX12_readDirective 434 = .ok (.aload_n 0, 1) := by decide +kernel
theorem dX12_readDirective_435 : decode cX12_readDirective 435 = .ok (.dup, 1) := by decide +kernel
theorem dX12_readDirective_436 : decode cX12_readDirective 436 = .ok (.getfield 106, 3) := by decide +kernel
theorem dX12_readDirective_439 : decode cX12_readDirective 439 = .ok (.iconst 1, 1) := by decide +kernel
theorem dX12_readDirective_440 : decode cX12_readDirective 440 = .ok (.iadd, 1) := by decide +kernel
theorem dX12_readDirective_441 : decode cX12_readDirective 441 = .ok (.putfield 106, 3) := by decide +kernel
theorem dX12_readDirective_444 : decode cX12_readDirective 444 = .ok (.aload_n 0, 1) := by decide +kernel
theorem dX12_readDirective_445 : decode cX12_readDirective 445 = .ok (.aload_n 0, 1) := by decide +kernel
theorem dX12_readDirective_446 : decode cX12_readDirective 446 = .ok (.aload_n 0, 1) := by decide +kernel
theorem dX12_readDirective_447 : decode cX12_readDirective 447 = .ok (.getfield 106, 3) := by decide +kernel
theorem dX12_readDirective_450 : decode cX12_readDirective 450 = .ok (.invokevirtual 109, 3) := by decide +kernel
theorem dX12_readDirective_453 : decode cX12_readDirective 453 = .ok (.putfield 126, 3) := by decide +kernel
theorem dX12_readDirective_456 : decode cX12_readDirective 456 = .ok (.aload_n 0, 1) := by decide +kernel
theorem dX12_readDirective_457 : decode cX12_readDirective 457 = .ok (.dup, 1) := by decide +kernel
theorem dX12_readDirective_458 : decode cX12_readDirective 458 = .ok (.getfield 106, 3) := by decide +kernel
theorem dX12_readDirective_461 : decode cX12_readDirective 461 = .ok (.iconst 1, 1) := by decide +kernel
theorem dX12_readDirective_462 : decode cX12_readDirective 462 = .ok (.iadd, 1) := by decide +kernel
theorem dX12_readDirective_463 : decode cX12_readDirective 463 = .ok (.putfield 106, 3) := by decide +kernel
theorem dX12_readDirective_466 : decode cX12_readDirective 466 = .ok (.aload_n 0, 1) := by decide +kernel
theorem dX12_readDirective_467 : decode cX12_readDirective 467 = .ok (.getfield 126, 3) := by decide +kernel
theorem dX12_readDirective_470 : decode cX12_readDirective 470 = .ok (.bipush 100, 2) := by decide +kernel
theorem dX12_readDirective_472 : decode cX12_readDirective 472 = .ok (.if_icmp .eq 75, 3) := by decide +kernel
theorem dX12_readDirective_475 : decode cX12_readDirective 475 = .ok (.aload_n 0, 1) := by decide +kernel
theorem dX12_readDirective_476 : decode cX12_readDirective 476 = .ok (.getfield 126, 3) := by decide +kernel
theorem dX12_readDirective_479 : decode cX12_readDirective 479 = .ok (.bipush 105, 2) := by decide +kernel
theorem dX12_readDirective_481 : decode cX12_readDirective 481 = .ok (.if_icmp .eq 66, 3) := by decide +kernel
theorem dX12_readDirective_484 : decode cX12_readDirective 484 = .ok (.aload_n 0, 1) := by decide +kernel
theorem dX12_readDirective_485 : decode cX12_readDirective 485 = .ok (.getfield 126, 3) := by decide +kernel
theorem dX12_readDirective_488 : decode cX12_readDirective 488 = .ok (.bipush 117, 2) := by decide +kernel
theorem dX12_readDirective_490 : decode cX12_readDirective 490 = .ok (.if_icmp .eq 57, 3) := by decide +kernel
theorem dX12_readDirective_493 : decode cX12_readDirective 493 = .ok (.aload_n 0, 1) := by decide +kernel
theorem dX12_readDirective_494 : decode cX12_readDirective 494 = .ok (.getfield 126, 3) := by decide +kernel
theorem dX12_readDirective_497 : decode cX12_readDirective 497 = .ok (.bipush 111, 2) := by decide +kernel
theorem dX12_readDirective_499 : decode cX12_readDirective 499 = .ok (.if_icmp .eq 48, 3) := by decide +kernel
theorem dX12_readDirective_502 : decode cX12_readDirective 502 = .ok (.aload_n 0, 1) := by decide +kernel
theorem dX12_readDirective_503 : decode cX12_readDirective 503 = .ok (.getfield 126, 3) := by decide +kernel
theorem dX12_readDirective_506 : decode cX12_readDirective 506 = .ok (.bipush 120, 2) := by decide +kernel
theorem dX12_readDirective_508 : decode cX12_readDirective 508 = .ok (.if_icmp .eq 39, 3) := by decide +kernel
theorem dX12_readDirective_511 : decode cX12_readDirective 511 = .ok (.aload_n 0, 1) := by decide +kernel
theorem dX12_readDirective_512 : decode cX12_readDirective 512 = .ok (.getfield 126, 3) := by decide +kernel
theorem dX12_readDirective_515 : decode cX12_readDirective 515 = .ok (.bipush 88, 2) := by decide +kernel
theorem dX12_readDirective_517 : decode cX12_readDirective 517 = .ok (.if_icmp .eq 30, 3) := by decide +kernel
theorem dX12_readDirective_520 : decode cX12_readDirective 520 = .ok (.aload_n 0, 1) := by decide +kernel
theorem dX12_readDirective_521 : decode cX12_readDirective 521 = .ok (.getfield 126, 3) := by decide +kernel
theorem dX12_readDirective_524 : decode cX12_readDirective 524 = .ok (.bipush 99, 2) := by decide +kernel
theorem dX12_readDirective_526 : decode cX12_readDirective 526 = .ok (.if_icmp .eq 21, 3) := by decide +kernel
theorem dX12_readDirective_529 : decode cX12_readDirective 529 = .ok (.aload_n 0, 1) := by decide +kernel
theorem dX12_readDirective_530 : decode cX12_readDirective 530 = .ok (.getfield 126, 3) := by decide +kernel
theorem dX12_readDirective_533 : decode cX12_readDirective 533 = .ok (.bipush 115, 2) := by decide +kernel
theorem dX12_readDirective_535 : decode cX12_readDirective 535 = .ok (.if_icmp .eq 12, 3) := by decide +kernel
theorem dX12_readDirective_538 : decode cX12_readDirective 538 = .ok (.aload_n 0, 1) := by decide +kernel
theorem dX12_readDirective_539 : decode cX12_readDirective 539 = .ok (.getfield 126, 3) := by decide +kernel
theorem dX12_readDirective_542 : decode cX12_readDirective 542 = .ok (.bipush 98, 2) := by decide +kernel
theorem dX12_readDirective_544 : decode cX12_readDirective 544 = .ok (.if_icmp .ne 7, 3) := by decide +kernel
theorem dX12_readDirective_547 : decode cX12_readDirective 547 = .ok (.iconst 1, 1) := by decide +kernel
theorem dX12_readDirective_548 : decode cX12_readDirective 548 = .ok (.goto 4, 3) := by decide +kernel
theorem dX12_readDirective_551 : decode cX12_readDirective 551 = .ok (.iconst 0, 1) := by decide +kernel
theorem dX12_readDirective_552 : decode cX12_readDirective 552 = .ok (.ireturn, 1) := by decide +kernel
theorem dX12_readTwo_0 : decode cX12_readTwo 0 = .ok (.iconst 0, 1) := by decide +kernel
theorem dX12_readTwo_1 : decode cX12_readTwo 1 = .ok (.istore_n 1, 1) := by decide +kernel
theorem dX12_readTwo_2 : decode cX12_readTwo 2 = .ok (.iconst 0, 1) := by decide +kernel
theorem dX12_readTwo_3 : decode cX12_readTwo 3 = .ok (.istore_n 2, 1) := by decide +kernel
theorem dX12_readTwo_4 : decode cX12_readTwo 4 = .ok (.iload_n 2, 1) := by decide +kernel
theorem dX12_readTwo_5 : decode cX12_readTwo 5 = .ok (.iconst 2, 1) := by decide +kernel
theorem dX12_readTwo_6 : decode cX12_readTwo 6 = .ok (.if_icmp .ge 62, 3) := by decide +kernel
theorem dX12_readTwo_9 : decode cX12_readTwo 9 = .ok (.aload_n 0, 1) := by decide +kernel
theorem dX12_readTwo_10 : decode cX12_readTwo 10 = .ok (.aload_n 0, 1) := by decide +kernel
theorem dX12_readTwo_11 : decode cX12_readTwo 11 = .ok (.getfield 106, 3) := by decide +kernel
theorem dX12_readTwo_14 : decode cX12_readTwo 14 = .ok (.invokevirtual 109, 3) := by decide +kernel
theorem dX12_readTwo_17 : decode cX12_readTwo 17 = .ok (.bipush 48, 2) := by decide +kernel
theorem dX12_readTwo_19 : decode cX12_readTwo 19 = .ok (.if_icmp .lt 49, 3) := by decide +kernel
theorem dX12_readTwo_22 : decode cX12_readTwo 22 = .ok (.aload_n 0, 1) := by decide +kernel
theorem dX12_readTwo_23 : decode cX12_readTwo 23 = .ok (.aload_n 0, 1) := by decide +kernel
theorem dX12_readTwo_24 : decode cX12_readTwo 24 = .ok (.getfield 106, 3) := by decide +kernel
theorem dX12_readTwo_27 : decode cX12_readTwo 27 = .ok (.invokevirtual 109, 3) := by decide +kernel
