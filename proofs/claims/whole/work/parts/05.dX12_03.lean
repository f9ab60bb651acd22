theorem dX12_takeText_10 : decode cX12_takeText 10 = .ok (.getfield 64, 3) := by decide +kernel
theorem dX12_takeText_13 : decode cX12_takeText 13 = .ok (.if_icmp .ne 4, 3) := by decide +kernel
theorem dX12_takeText_16 : decode cX12_takeText 16 = .ok (.return_, 1) := by decide +kernel
theorem dX12_takeText_17 : decode cX12_takeText 17 = .ok (.aload_n 0, 1) := by decide +kernel
theorem dX12_takeText_18 : decode cX12_takeText 18 = .ok (.getfield 156, 3) := by decide +kernel
theorem dX12_takeText_21 : decode cX12_takeText 21 = .ok (.istore_n 1, 1) := by decide +kernel
theorem dX12_takeText_22 : decode cX12_takeText 22 = .ok (.aload_n 0, 1) := by decide +kernel
theorem dX12_takeText_23 : decode cX12_takeText 23 = .ok (.dup, 1) := by decide +kernel
theorem dX12_takeText_24 : decode cX12_takeText 24 = .ok (.getfield 156, 3) := by decide +kernel
theorem dX12_takeText_27 : decode cX12_takeText 27 = .ok (.iconst 1, 1) := by decide +kernel
theorem dX12_takeText_28 : decode cX12_takeText 28 = .ok (.iadd, 1) := by decide +kernel
theorem dX12_takeText_29 : decode cX12_takeText 29 = .ok (.putfield 156, 3) := by decide +kernel
theorem dX12_takeText_32 : decode cX12_takeText 32 = .ok (.aload_n 0, 1) := by decide +kernel
theorem dX12_takeText_33 : decode cX12_takeText 33 = .ok (.getfield 13, 3) := by decide +kernel
theorem dX12_takeText_36 : decode cX12_takeText 36 = .ok (.iload_n 1, 1) := by decide +kernel
theorem dX12_takeText_37 : decode cX12_takeText 37 = .ok (.baload, 1) := by decide +kernel
theorem dX12_takeText_38 : decode cX12_takeText 38 = .ok (.ifCond .eq 49, 3) := by decide +kernel
theorem dX12_takeText_41 : decode cX12_takeText 41 = .ok (.iconst 0, 1) := by decide +kernel
theorem dX12_takeText_42 : decode cX12_takeText 42 = .ok (.istore_n 2, 1) := by decide +kernel
theorem dX12_takeText_43 : decode cX12_takeText 43 = .ok (.iload_n 2, 1) := by decide +kernel
theorem dX12_takeText_44 : decode cX12_takeText 44 = .ok (.aload_n 0, 1) := by decide +kernel
theorem dX12_takeText_45 : decode cX12_takeText 45 = .ok (.getfield 21, 3) := by decide +kernel
theorem dX12_takeText_48 : decode cX12_takeText 48 = .ok (.iload_n 1, 1) := by decide +kernel
theorem dX12_takeText_49 : decode cX12_takeText 49 = .ok (.iaload, 1) := by decide +kernel
theorem dX12_takeText_50 : decode cX12_takeText 50 = .ok (.if_icmp .ge 26, 3) := by decide +kernel
theorem dX12_takeText_53 : decode cX12_takeText 53 = .ok (.aload_n 0, 1) := by decide +kernel
theorem dX12_takeText_54 : decode cX12_takeText 54 = .ok (.getfield 41, 3) := by decide +kernel
theorem dX12_takeText_57 : decode cX12_takeText 57 = .ok (.iload_n 2, 1) := by decide +kernel
theorem dX12_takeText_58 : decode cX12_takeText 58 = .ok (.aload_n 0, 1) := by decide +kernel
theorem dX12_takeText_59 : decode cX12_takeText 59 = .ok (.getfield 25, 3) := by decide +kernel
theorem dX12_takeText_62 : decode cX12_takeText 62 = .ok (.bipush 80, 2) := by decide +kernel
theorem dX12_takeText_64 : decode cX12_takeText 64 = .ok (.iload_n 1, 1) := by decide +kernel
theorem dX12_takeText_65 : decode cX12_takeText 65 = .ok (.imul, 1) := by decide +kernel
theorem dX12_takeText_66 : decode cX12_takeText 66 = .ok (.iload_n 2, 1) := by decide +kernel
theorem dX12_takeText_67 : decode cX12_takeText 67 = .ok (.iadd, 1) := by decide +kernel
theorem dX12_takeText_68 : decode cX12_takeText 68 = .ok (.caload, 1) := by decide +kernel
theorem dX12_takeText_69 : decode cX12_takeText 69 = .ok (.castore, 1) := by decide +kernel
theorem dX12_takeText_70 : decode cX12_takeText 70 = .ok (.iinc 2 1, 3) := by decide +kernel
theorem dX12_takeText_73 : decode cX12_takeText 73 = .ok (.goto (-30), 3) := by decide +kernel
theorem dX12_takeText_76 : decode cX12_takeText 76 = .ok (.aload_n 0, 1) := by decide +kernel
theorem dX12_takeText_77 : decode cX12_takeText 77 = .ok (.aload_n 0, 1) := by decide +kernel
theorem dX12_takeText_78 : decode cX12_takeText 78 = .ok (.getfield 21, 3) := by decide +kernel
theorem dX12_takeText_81 : decode cX12_takeText 81 = .ok (.iload_n 1, 1) := by decide +kernel
theorem dX12_takeText_82 : decode cX12_takeText 82 = .ok (.iaload, 1) := by decide +kernel
theorem dX12_takeText_83 : decode cX12_takeText 83 = .ok (.putfield 163, 3) := by decide +kernel
theorem dX12_takeText_86 : decode cX12_takeText 86 = .ok (.return_, 1) := by decide +kernel
theorem dX12_takeText_87 : decode cX12_takeText 87 = .ok (.aload_n 0, 1) := by decide +kernel
theorem dX12_takeText_88 : decode cX12_takeText 88 = .ok (.getfield 17, 3) := by decide +kernel
theorem dX12_takeText_91 : decode cX12_takeText 91 = .ok (.iload_n 1, 1) := by decide +kernel
theorem dX12_takeText_92 : decode cX12_takeText 92 = .ok (.laload, 1) := by decide +kernel
theorem dX12_takeText_93 : decode cX12_takeText 93 = .ok (.lstore_n 2, 1) := by decide +kernel
theorem dX12_takeText_94 : decode cX12_takeText 94 = .ok (.aload_n 0, 1) := by decide +kernel
theorem dX12_takeText_95 : decode cX12_takeText 95 = .ok (.lload_n 2, 1) := by decide +kernel
theorem dX12_takeText_96 : decode cX12_takeText 96 = .ok (.lconst 0, 1) := by decide +kernel
theorem dX12_takeText_97 : decode cX12_takeText 97 = .ok (.lcmp, 1) := by decide +kernel
theorem dX12_takeText_98 : decode cX12_takeText 98 = .ok (.ifCond .ge 8, 3) := by decide +kernel
theorem dX12_takeText_101 : decode cX12_takeText 101 = .ok (.lload_n 2, 1) := by decide +kernel
theorem dX12_takeText_102 : decode cX12_takeText 102 = .ok (.lneg, 1) := by decide +kernel
theorem dX12_takeText_103 : decode cX12_takeText 103 = .ok (.goto 4, 3) := by decide +kernel
theorem dX12_takeText_106 : decode cX12_takeText 106 = .ok (.lload_n 2, 1) := by decide +kernel
theorem dX12_takeText_107 : decode cX12_takeText 107 = .ok (.bipush 10, 2) := by decide +kernel
theorem dX12_takeText_109 : decode cX12_takeText 109 = .ok (.iconst 0, 1) := by decide +kernel
theorem dX12_takeText_110 : decode cX12_takeText 110 = .ok (.invokevirtual 166, 3) := by decide +kernel
theorem dX12_takeText_113 : decode cX12_takeText 113 = .ok (.aload_n 0, 1) := by decide +kernel
theorem dX12_takeText_114 : decode cX12_takeText 114 = .ok (.iconst 1, 1) := by decide +kernel
theorem dX12_takeText_115 : decode cX12_takeText 115 = .ok (.invokevirtual 170, 3) := by decide +kernel
theorem dX12_takeText_118 : decode cX12_takeText 118 = .ok (.lload_n 2, 1) := by decide +kernel
theorem dX12_takeText_119 : decode cX12_takeText 119 = .ok (.lconst 0, 1) := by decide +kernel
theorem dX12_takeText_120 : decode cX12_takeText 120 = .ok (.lcmp, 1) := by decide +kernel
theorem dX12_takeText_121 : decode cX12_takeText 121 = .ok (.ifCond .ge 24, 3) := by decide +kernel
theorem dX12_takeText_124 : decode cX12_takeText 124 = .ok (.aload_n 0, 1) := by decide +kernel
theorem dX12_takeText_125 : decode cX12_takeText 125 = .ok (.getfield 44, 3) := by decide +kernel
theorem dX12_takeText_128 : decode cX12_takeText 128 = .ok (.aload_n 0, 1) := by decide +kernel
theorem dX12_takeText_129 : decode cX12_takeText 129 = .ok (.getfield 78, 3) := by decide +kernel
theorem dX12_takeText_132 : decode cX12_takeText 132 = .ok (.bipush 45, 2) := by decide +kernel
theorem dX12_takeText_134 : decode cX12_takeText 134 = .ok (.castore, 1) := by decide +kernel
theorem dX12_takeText_135 : decode cX12_takeText 135 = .ok (.aload_n 0, 1) := by decide +kernel
theorem dX12_takeText_136 : decode cX12_takeText 136 = .ok (.dup, 1) := by decide +kernel
theorem dX12_takeText_137 : decode cX12_takeText 137 = .ok (.getfield 78, 3) := by decide +kernel
theorem dX12_takeText_140 : decode cX12_takeText 140 = .ok (.iconst 1, 1) := by decide +kernel
theorem dX12_takeText_141 : decode cX12_takeText 141 = .ok (.iadd, 1) := by decide +kernel
theorem dX12_takeText_142 : decode cX12_takeText 142 = .ok (.putfield 78, 3) := by decide +kernel
theorem dX12_takeText_145 : decode cX12_takeText 145 = .ok (.aload_n 0, 1) := by decide +kernel
theorem dX12_takeText_146 : decode cX12_takeText 146 = .ok (.getfield 78, 3) := by decide +kernel
theorem dX12_takeText_149 : decode cX12_takeText 149 = .ok (.iconst 1, 1) := by decide +kernel
theorem dX12_takeText_150 : decode cX12_takeText 150 = .ok (.isub, 1) := by decide +kernel
theorem dX12_takeText_151 : decode cX12_takeText 151 = .ok (.istore 4, 2) := by decide +kernel
theorem dX12_takeText_153 : decode cX12_takeText 153 = .ok (.iload 4, 2) := by decide +kernel
theorem dX12_takeText_155 : decode cX12_takeText 155 = .ok (.ifCond .lt 35, 3) := by decide +kernel
theorem dX12_takeText_158 : decode cX12_takeText 158 = .ok (.aload_n 0, 1) := by decide +kernel
theorem dX12_takeText_159 : decode cX12_takeText 159 = .ok (.getfield 41, 3) := by decide +kernel
theorem dX12_takeText_162 : decode cX12_takeText 162 = .ok (.aload_n 0, 1) := by decide +kernel
theorem dX12_takeText_163 : decode cX12_takeText 163 = .ok (.getfield 163, 3) := by decide +kernel
theorem dX12_takeText_166 : decode cX12_takeText 166 = .ok (.aload_n 0, 1) := by decide +kernel
theorem dX12_takeText_167 : decode cX12_takeText 167 = .ok (.getfield 44, 3) := by decide +kernel
theorem dX12_takeText_170 : decode cX12_takeText 170 = .ok (.iload 4, 2) := by decide +kernel
theorem dX12_takeText_172 : decode cX12_takeText 172 = .ok (.caload, 1) := by decide +kernel
theorem dX12_takeText_173 : decode cX12_takeText 173 = .ok (.castore, 1) := by decide +kernel
theorem dX12_takeText_174 : decode cX12_takeText 174 = .ok (.aload_n 0, 1) := by decide +kernel
theorem dX12_takeText_175 : decode cX12_takeText 175 = .ok (.dup, 1) := by decide +kernel
theorem dX12_takeText_176 : decode cX12_takeText 176 = .ok (.getfield 163, 3) := by decide +kernel
theorem dX12_takeText_179 : decode cX12_takeText 179 = .ok (.iconst 1, 1) := by decide +kernel
theorem dX12_takeText_180 : decode cX12_takeText 180 = .ok (.iadd, 1) := by decide +kernel
theorem dX12_takeText_181 : decode cX12_takeText 181 = .ok (.putfield 163, 3) := by decide +kernel
theorem dX12_takeText_184 : decode cX12_takeText 184 = .ok (.iinc 4 (-1), 3) := by decide +kernel
theorem dX12_takeText_187 : decode cX12_takeText 187 = .ok (.goto (-34), 3) := by decide +kernel
theorem dX12_takeText_190 : decode cX12_takeText 190 = .ok (.return_, 1) := by decide +kernel
theorem dX12_cutTo_0 : decode cX12_cutTo 0 = .ok (.lload_n 0, 1) := by decide +kernel
theorem dX12_cutTo_1 : decode cX12_cutTo 1 = .ok (.ldc2_w 173, 3) := by decide +kernel
theorem dX12_cutTo_4 : decode cX12_cutTo 4 = .ok (.lcmp, 1) := by decide +kernel
theorem dX12_cutTo_5 : decode cX12_cutTo 5 = .ok (.ifCond .ge 8, 3) := by decide +kernel
theorem dX12_cutTo_8 : decode cX12_cutTo 8 = .ok (.bipush (-99), 2) := by decide +kernel
theorem dX12_cutTo_10 : decode cX12_cutTo 10 = .ok (.goto 18, 3) := by decide +kernel
theorem dX12_cutTo_13 : decode cX12_cutTo 13 = .ok (.lload_n 0, 1) := by decide +kernel
theorem dX12_cutTo_14 : decode cX12_cutTo 14 = .ok (.ldc2_w 175, 3) := by decide +kernel
theorem dX12_cutTo_17 : decode cX12_cutTo 17 = .ok (.lcmp, 1) := by decide +kernel
theorem dX12_cutTo_18 : decode cX12_cutTo 18 = .ok (.ifCond .le 8, 3) := by decide +kernel
theorem dX12_cutTo_21 : decode cX12_cutTo 21 = .ok (.bipush 99, 2) := by decide +kernel
theorem dX12_cutTo_23 : decode cX12_cutTo 23 = .ok (.goto 5, 3) := by decide +kernel
theorem dX12_cutTo_26 : decode cX12_cutTo 26 = .ok (.lload_n 0, 1) := by decide +kernel
theorem dX12_cutTo_27 : decode cX12_cutTo 27 = .ok (.l2i, 1) := by decide +kernel
theorem dX12_cutTo_28 : decode cX12_cutTo 28 = .ok (.ireturn, 1) := by decide +kernel
theorem dX12_printWhole_0 : decode cX12_printWhole 0 = .ok (.aload_n 0, 1) := by decide +kernel
theorem dX12_printWhole_1 : decode cX12_printWhole 1 = .ok (.invokevirtual 177, 3) := by decide +kernel
theorem dX12_printWhole_4 : decode cX12_printWhole 4 = .ok (.lstore_n 1, 1) := by decide +kernel
theorem dX12_printWhole_5 : decode cX12_printWhole 5 = .ok (.aload_n 0, 1) := by decide +kernel
theorem dX12_printWhole_6 : decode cX12_printWhole 6 = .ok (.getfield 126, 3) := by decide +kernel
theorem dX12_printWhole_9 : decode cX12_printWhole 9 = .ok (.bipush 100, 2) := by decide +kernel
theorem dX12_printWhole_11 : decode cX12_printWhole 11 = .ok (.if_icmp .eq 12, 3) := by decide +kernel
theorem dX12_printWhole_14 : decode cX12_printWhole 14 = .ok (.aload_n 0, 1) := by decide +kernel
theorem dX12_printWhole_15 : decode cX12_printWhole 15 = .ok (.getfield 126, 3) := by decide +kernel
theorem dX12_printWhole_18 : decode cX12_printWhole 18 = .ok (.bipush 105, 2) := by decide +kernel
theorem dX12_printWhole_20 : decode cX12_printWhole 20 = .ok (.if_icmp .ne 7, 3) := by decide +kernel
theorem dX12_printWhole_23 : decode cX12_printWhole 23 = .ok (.iconst 1, 1) := by decide +kernel
theorem dX12_printWhole_24 : decode cX12_printWhole 24 = .ok (.goto 4, 3) := by decide +kernel
theorem dX12_printWhole_27 : decode cX12_printWhole 27 = .ok (.iconst 0, 1) := by decide +kernel
theorem dX12_printWhole_28 : decode cX12_printWhole 28 = .ok (.istore_n 3, 1) := by decide +kernel
theorem dX12_printWhole_29 : decode cX12_printWhole 29 = .ok (.aload_n 0, 1) := by decide +kernel
theorem dX12_printWhole_30 : decode cX12_printWhole 30 = .ok (.getfield 123, 3) := by decide +kernel
theorem dX12_printWhole_33 : decode cX12_printWhole 33 = .ok (.bipush 64, 2) := by decide +kernel
theorem dX12_printWhole_35 : decode cX12_printWhole 35 = .ok (.if_icmp .ne 7, 3) := by decide +kernel
theorem dX12_printWhole_38 : decode cX12_printWhole 38 = .ok (.lload_n 1, 1) := by decide +kernel
theorem dX12_printWhole_39 : decode cX12_printWhole 39 = .ok (.goto 37, 3) := by decide +kernel
theorem dX12_printWhole_42 : decode cX12_printWhole 42 = .ok (.iload_n 3, 1) := by decide +kernel
theorem dX12_printWhole_43 : decode cX12_printWhole 43 = .ok (.ifCond .eq 23, 3) := by decide +kernel
theorem dX12_printWhole_46 : decode cX12_printWhole 46 = .ok (.lload_n 1, 1) := by decide +kernel
theorem dX12_printWhole_47 : decode cX12_printWhole 47 = .ok (.bipush 64, 2) := by decide +kernel
theorem dX12_printWhole_49 : decode cX12_printWhole 49 = .ok (.aload_n 0, 1) := by decide +kernel
theorem dX12_printWhole_50 : decode cX12_printWhole 50 = .ok (.getfield 123, 3) := by decide +kernel
theorem dX12_printWhole_53 : decode cX12_printWhole 53 = .ok (.isub, 1) := by decide +kernel
theorem dX12_printWhole_54 : decode cX12_printWhole 54 = .ok (.lshl, 1) := by decide +kernel
theorem dX12_printWhole_55 : decode cX12_printWhole 55 = .ok (.bipush 64, 2) := by decide +kernel
theorem dX12_printWhole_57 : decode cX12_printWhole 57 = .ok (.aload_n 0, 1) := by decide +kernel
theorem dX12_printWhole_58 : decode cX12_printWhole 58 = .ok (.getfield 123, 3) := by decide +kernel
theorem dX12_printWhole_61 : decode cX12_printWhole 61 = .ok (.isub, 1) := by decide +kernel
theorem dX12_printWhole_62 : decode cX12_printWhole 62 = .ok (.lshr, 1) := by decide +kernel
theorem dX12_printWhole_63 : decode cX12_printWhole 63 = .ok (.goto 13, 3) := by decide +kernel
theorem dX12_printWhole_66 : decode cX12_printWhole 66 = .ok (.lload_n 1, 1) := by decide +kernel
theorem dX12_printWhole_67 : decode cX12_printWhole 67 = .ok (.lconst 1, 1) := by decide +kernel
theorem dX12_printWhole_68 : decode cX12_printWhole 68 = .ok (.aload_n 0, 1) := by decide +kernel
theorem dX12_printWhole_69 : decode cX12_printWhole 69 = .ok (.getfield 123, 3) := by decide +kernel
theorem dX12_printWhole_72 : decode cX12_printWhole 72 = .ok (.lshl, 1) := by decide +kernel
theorem dX12_printWhole_73 : decode cX12_printWhole 73 = .ok (.lconst 1, 1) := by decide +kernel
theorem dX12_printWhole_74 : decode cX12_printWhole 74 = .ok (.lsub, 1) := by decide +kernel
theorem dX12_printWhole_75 : decode cX12_printWhole 75 = .ok (.land, 1) := by decide +kernel
theorem dX12_printWhole_76 : decode cX12_printWhole 76 = .ok (.lstore 4, 2) := by decide +kernel
theorem dX12_printWhole_78 : decode cX12_printWhole 78 = .ok (.iload_n 3, 1) := by decide +kernel
theorem dX12_printWhole_79 : decode cX12_printWhole 79 = .ok (.ifCond .eq 14, 3) := by decide +kernel
theorem dX12_printWhole_82 : decode cX12_printWhole 82 = .ok (.lload 4, 2) := by decide +kernel
theorem dX12_printWhole_84 : decode cX12_printWhole 84 = .ok (.lconst 0, 1) := by decide +kernel
theorem dX12_printWhole_85 : decode cX12_printWhole 85 = .ok (.lcmp, 1) := by decide +kernel
theorem dX12_printWhole_86 : decode cX12_printWhole 86 = .ok (.ifCond .ge 7, 3) := by decide +kernel
theorem dX12_printWhole_89 : decode cX12_printWhole 89 = .ok (.iconst 1, 1) := by decide +kernel
theorem dX12_printWhole_90 : decode cX12_printWhole 90 = .ok (.goto 4, 3) := by decide +kernel
theorem dX12_printWhole_93 : decode cX12_printWhole 93 = .ok (.iconst 0, 1) := by decide +kernel
theorem dX12_printWhole_94 : decode cX12_printWhole 94 = .ok (.istore 6, 2) := by decide +kernel
theorem dX12_printWhole_96 : decode cX12_printWhole 96 = .ok (.aload_n 0, 1) := by decide +kernel
theorem dX12_printWhole_97 : decode cX12_printWhole 97 = .ok (.getfield 126, 3) := by decide +kernel
theorem dX12_printWhole_100 : decode cX12_printWhole 100 = .ok (.bipush 111, 2) := by decide +kernel
theorem dX12_printWhole_102 : decode cX12_printWhole 102 = .ok (.if_icmp .ne 8, 3) := by decide +kernel
theorem dX12_printWhole_105 : decode cX12_printWhole 105 = .ok (.bipush 8, 2) := by decide +kernel
theorem dX12_printWhole_107 : decode cX12_printWhole 107 = .ok (.goto 28, 3) := by decide +kernel
theorem dX12_printWhole_110 : decode cX12_printWhole 110 = .ok (.aload_n 0, 1) := by decide +kernel
theorem dX12_printWhole_111 : decode cX12_printWhole 111 = .ok (.getfield 126, 3) := by decide +kernel
theorem dX12_printWhole_114 : decode cX12_printWhole 114 = .ok (.bipush 120, 2) := by decide +kernel
theorem dX12_printWhole_116 : decode cX12_printWhole 116 = .ok (.if_icmp .eq 12, 3) := by decide +kernel
theorem dX12_printWhole_119 : decode cX12_printWhole 119 = .ok (.aload_n 0, 1) := by decide +kernel
theorem dX12_printWhole_120 : decode cX12_printWhole 120 = .ok (.getfield 126, 3) := by decide +kernel
theorem dX12_printWhole_123 : decode cX12_printWhole 123 = .ok (.bipush 88, 2) := by decide +kernel
theorem dX12_printWhole_125 : decode cX12_printWhole 125 = .ok (.if_icmp .ne 8, 3) := by decide +kernel
theorem dX12_printWhole_128 : decode cX12_printWhole 128 = .ok (.bipush 16, 2) := by decide +kernel
theorem dX12_printWhole_130 : decode cX12_printWhole 130 = .ok (.goto 5, 3) := by decide +kernel
theorem dX12_printWhole_133 : decode cX12_printWhole 133 = .ok (.bipush 10, 2) := by decide +kernel
theorem dX12_printWhole_135 : decode cX12_printWhole 135 = .ok (.istore 7, 2) := by decide +kernel
theorem dX12_printWhole_137 : decode cX12_printWhole 137 = .ok (.aload_n 0, 1) := by decide +kernel
theorem dX12_printWhole_138 : decode cX12_printWhole 138 = .ok (.iload 6, 2) := by decide +kernel
theorem dX12_printWhole_140 : decode cX12_printWhole 140 = .ok (.ifCond .eq 9, 3) := by decide +kernel
theorem dX12_printWhole_143 : decode cX12_printWhole 143 = .ok (.lload 4, 2) := by decide +kernel
theorem dX12_printWhole_145 : decode cX12_printWhole 145 = .ok (.lneg, 1) := by decide +kernel
theorem dX12_printWhole_146 : decode cX12_printWhole 146 = .ok (.goto 5, 3) := by decide +kernel
theorem dX12_printWhole_149 : decode cX12_printWhole 149 = .ok (.lload 4, 2) := by decide +kernel
theorem dX12_printWhole_151 : decode cX12_printWhole 151 = .ok (.iload 7, 2) := by decide +kernel
theorem dX12_printWhole_153 : decode cX12_printWhole 153 = .ok (.aload_n 0, 1) := by decide +kernel
theorem dX12_printWhole_154 : decode cX12_printWhole 154 = .ok (.getfield 126, 3) := by decide +kernel
theorem dX12_printWhole_157 : decode cX12_printWhole 157 = .ok (.bipush 88, 2) := by decide +kernel
theorem dX12_printWhole_159 : decode cX12_printWhole 159 = .ok (.if_icmp .ne 7, 3) := by decide +kernel
theorem dX12_printWhole_162 : decode cX12_printWhole 162 = .ok (.iconst 1, 1) := by decide +kernel
theorem dX12_printWhole_163 : decode cX12_printWhole 163 = .ok (.goto 4, 3) := by decide +kernel
theorem dX12_printWhole_166 : decode cX12_printWhole 166 = .ok (.iconst 0, 1) := by decide +kernel
theorem dX12_printWhole_167 : decode cX12_printWhole 167 = .ok (.invokevirtual 166, 3) := by decide +kernel
theorem dX12_printWhole_170 : decode cX12_printWhole 170 = .ok (.aload_n 0, 1) := by decide +kernel
theorem dX12_printWhole_171 : decode cX12_printWhole 171 = .ok (.aload_n 0, 1) := by decide +kernel
theorem dX12_printWhole_172 : decode cX12_printWhole 172 = .ok (.getfield 120, 3) := by decide +kernel
theorem dX12_printWhole_175 : decode cX12_printWhole 175 = .ok (.ifCond .ge 7, 3) := by decide +kernel
theorem dX12_printWhole_178 : decode cX12_printWhole 178 = .ok (.iconst 1, 1) := by decide +kernel
theorem dX12_printWhole_179 : decode cX12_printWhole 179 = .ok (.goto 7, 3) := by decide +kernel
theorem dX12_printWhole_182 : decode cX12_printWhole 182 = .ok (.aload_n 0, 1) := by decide +kernel
theorem dX12_printWhole_183 : decode cX12_printWhole 183 = .ok (.getfield 120, 3) := by decide +kernel
theorem dX12_printWhole_186 : decode cX12_printWhole 186 = .ok (.invokevirtual 170, 3) := by decide +kernel
theorem dX12_printWhole_189 : decode cX12_printWhole 189 = .ok (.aload_n 0, 1) := by decide +kernel
theorem dX12_printWhole_190 : decode cX12_printWhole 190 = .ok (.getfield 100, 3) := by decide +kernel
theorem dX12_printWhole_193 : decode cX12_printWhole 193 = .ok (.ifCond .eq 56, 3) := by decide +kernel
theorem dX12_printWhole_196 : decode cX12_printWhole 196 = .ok (.aload_n 0, 1) := by decide +kernel
theorem dX12_printWhole_197 : decode cX12_printWhole 197 = .ok (.getfield 126, 3) := by decide +kernel
theorem dX12_printWhole_200 : decode cX12_printWhole 200 = .ok (.bipush 111, 2) := by decide +kernel
theorem dX12_printWhole_202 : decode cX12_printWhole 202 = .ok (.if_icmp .ne 47, 3) := by decide +kernel
theorem dX12_printWhole_205 : decode cX12_printWhole 205 = .ok (.aload_n 0, 1) := by decide +kernel
theorem dX12_printWhole_206 : decode cX12_printWhole 206 = .ok (.getfield 78, 3) := by decide +kernel
theorem dX12_printWhole_209 : decode cX12_printWhole 209 = .ok (.ifCond .eq 19, 3) := by decide +kernel
theorem dX12_printWhole_212 : decode cX12_printWhole 212 = .ok (.aload_n 0, 1) := by decide +kernel
theorem dX12_printWhole_213 : decode cX12_printWhole 213 = .ok (.getfield 44, 3) := by decide +kernel
theorem dX12_printWhole_216 : decode cX12_printWhole 216 = .ok (.aload_n 0, 1) := by decide +kernel
theorem dX12_printWhole_217 : decode cX12_printWhole 217 = .ok (.getfield 78, 3) := by decide +kernel
theorem dX12_printWhole_220 : decode cX12_printWhole 220 = .ok (.iconst 1, 1) := by decide +kernel
theorem dX12_printWhole_221 : decode cX12_printWhole 221 = .ok (.isub, 1) := by decide +kernel
theorem dX12_printWhole_222 : decode cX12_printWhole 222 = .ok (.caload, 1) := by decide +kernel
theorem dX12_printWhole_223 : decode cX12_printWhole 223 = .ok (.bipush 48, 2) := by decide +kernel
theorem dX12_printWhole_225 : decode cX12_printWhole 225 = .ok (.if_icmp .eq 24, 3) := by decide +kernel
theorem dX12_printWhole_228 : decode cX12_printWhole 228 = .ok (.aload_n 0, 1) := by decide +kernel
theorem dX12_printWhole_229 : decode cX12_printWhole 229 = .ok (.getfield 44, 3) := by decide +kernel
theorem dX12_printWhole_232 : decode cX12_printWhole 232 = .ok (.aload_n 0, 1) := by decide +kernel
theorem dX12_printWhole_233 : decode cX12_printWhole 233 = .ok (.getfield 78, 3) := by decide +kernel
theorem dX12_printWhole_236 : decode cX12_printWhole 236 = .ok (.bipush 48, 2) := by decide +kernel
theorem dX12_printWhole_238 : decode cX12_printWhole 238 = .ok (.castore, 1) := by decide +kernel
theorem dX12_printWhole_239 : decode cX12_printWhole 239 = .ok (.aload_n 0, 1) := by decide +kernel
theorem dX12_printWhole_240 : decode cX12_printWhole 240 = .ok (.dup, 1) := by decide +kernel
theorem dX12_printWhole_241 : decode cX12_printWhole 241 = .ok (.getfield 78, 3) := by decide +kernel
theorem dX12_printWhole_244 : decode cX12_printWhole 244 = .ok (.iconst 1, 1) := by decide +kernel
theorem dX12_printWhole_245 : decode cX12_printWhole 245 = .ok (.iadd, 1) := by decide +kernel
theorem dX12_printWhole_246 : decode cX12_printWhole 246 = .ok (.putfield 78, 3) := by decide +kernel
theorem dX12_printWhole_249 : decode cX12_printWhole 249 = .ok (.iload 6, 2) := by decide +kernel
theorem dX12_printWhole_251 : decode cX12_printWhole 251 = .ok (.ifCond .eq 8, 3) := by decide +kernel
theorem dX12_printWhole_254 : decode cX12_printWhole 254 = .ok (.bipush 45, 2) := by decide +kernel
theorem dX12_printWhole_256 : decode cX12_printWhole 256 = .ok (.goto 36, 3) := by decide +kernel
theorem dX12_printWhole_259 : decode cX12_printWhole 259 = .ok (.iload_n 3, 1) := by decide +kernel
theorem dX12_printWhole_260 : decode cX12_printWhole 260 = .ok (.ifCond .ne 7, 3) := by decide +kernel
theorem dX12_printWhole_263 : decode cX12_printWhole 263 = .ok (.iconst 0, 1) := by decide +kernel
theorem dX12_printWhole_264 : decode cX12_printWhole 264 = .ok (.goto 28, 3) := by decide +kernel
theorem dX12_printWhole_267 : decode cX12_printWhole 267 = .ok (.aload_n 0, 1) := by decide +kernel
theorem dX12_printWhole_268 : decode cX12_printWhole 268 = .ok (.getfield 94, 3) := by decide +kernel
theorem dX12_printWhole_271 : decode cX12_printWhole 271 = .ok (.ifCond .eq 8, 3) := by decide +kernel
theorem dX12_printWhole_274 : decode cX12_printWhole 274 = .ok (.bipush 43, 2) := by decide +kernel
theorem dX12_printWhole_276 : decode cX12_printWhole 276 = .ok (.goto 16, 3) := by decide +kernel
theorem dX12_printWhole_279 : decode cX12_printWhole 279 = .ok (.aload_n 0, 1) := by decide +kernel
theorem dX12_printWhole_280 : decode cX12_printWhole 280 = .ok (.getfield 97, 3) := by decide +kernel
theorem dX12_printWhole_283 : decode cX12_printWhole 283 = .ok (.ifCond .eq 8, 3) := by decide +kernel
theorem dX12_printWhole_286 : decode cX12_printWhole 286 = .ok (.bipush 32, 2) := by decide +kernel
theorem dX12_printWhole_288 : decode cX12_printWhole 288 = .ok (.goto 4, 3) := by decide +kernel
theorem dX12_printWhole_291 : decode cX12_printWhole 291 = .ok (.iconst 0, 1) := by decide +kernel
theorem dX12_printWhole_292 : decode cX12_printWhole 292 = .ok (.istore 8, 2) := by decide +kernel
theorem dX12_printWhole_294 : decode cX12_printWhole 294 = .ok (.aload_n 0, 1) := by decide +kernel
theorem dX12_printWhole_295 : decode cX12_printWhole 295 = .ok (.getfield 100, 3) := by decide +kernel
theorem dX12_printWhole_298 : decode cX12_printWhole 298 = .ok (.ifCond .eq 21, 3) := by decide +kernel
theorem dX12_printWhole_301 : decode cX12_printWhole 301 = .ok (.iload 7, 2) := by decide +kernel
theorem dX12_printWhole_303 : decode cX12_printWhole 303 = .ok (.bipush 16, 2) := by decide +kernel
theorem dX12_printWhole_305 : decode cX12_printWhole 305 = .ok (.if_icmp .ne 14, 3) := by decide +kernel
theorem dX12_printWhole_308 : decode cX12_printWhole 308 = .ok (.lload 4, 2) := by decide +kernel
theorem dX12_printWhole_310 : decode cX12_printWhole 310 = .ok (.lconst 0, 1) := by decide +kernel
theorem dX12_printWhole_311 : decode cX12_printWhole 311 = .ok (.lcmp, 1) := by decide +kernel
theorem dX12_printWhole_312 : decode cX12_printWhole 312 = .ok (.ifCond .eq 7, 3) := by decide +kernel
theorem dX12_printWhole_315 : decode cX12_printWhole 315 = .ok (.iconst 1, 1) := by decide +kernel
theorem dX12_printWhole_316 : decode cX12_printWhole 316 = .ok (.goto 4, 3) := by decide +kernel
theorem dX12_printWhole_319 : decode cX12_printWhole 319 = .ok (.iconst 0, 1) := by decide +kernel
theorem dX12_printWhole_320 : decode cX12_printWhole 320 = .ok (.istore 9, 2) := by decide +kernel
theorem dX12_printWhole_322 : decode cX12_printWhole 322 = .ok (.aload_n 0, 1) := by decide +kernel
theorem dX12_printWhole_323 : decode cX12_printWhole 323 = .ok (.getfield 78, 3) := by decide +kernel
theorem dX12_printWhole_326 : decode cX12_printWhole 326 = .ok (.iload 8, 2) := by decide +kernel
theorem dX12_printWhole_328 : decode cX12_printWhole 328 = .ok (.ifCond .eq 7, 3) := by decide +kernel
theorem dX12_printWhole_331 : decode cX12_printWhole 331 = .ok (.iconst 1, 1) := by decide +kernel
theorem dX12_printWhole_332 : decode cX12_printWhole 332 = .ok (.goto 4, 3) := by decide +kernel
theorem dX12_printWhole_335 : decode cX12_printWhole 335 = .ok (.iconst 0, 1) := by decide +kernel
theorem dX12_printWhole_336 : decode cX12_printWhole 336 = .ok (.iadd, 1) := by decide +kernel
theorem dX12_printWhole_337 : decode cX12_printWhole 337 = .ok (.iload 9, 2) := by decide +kernel
theorem dX12_printWhole_339 : decode cX12_printWhole 339 = .ok (.ifCond .eq 7, 3) := by decide +kernel
theorem dX12_printWhole_342 : decode cX12_printWhole 342 = .ok (.iconst 2, 1) := by decide +kernel
theorem dX12_printWhole_343 : decode cX12_printWhole 343 = .ok (.goto 4, 3) := by decide +kernel
theorem dX12_printWhole_346 : decode cX12_printWhole 346 = .ok (.iconst 0, 1) := by decide +kernel
theorem dX12_printWhole_347 : decode cX12_printWhole 347 = .ok (.iadd, 1) := by decide +kernel
theorem dX12_printWhole_348 : decode cX12_printWhole 348 = .ok (.istore 10, 2) := by decide +kernel
theorem dX12_printWhole_350 : decode cX12_printWhole 350 = .ok (.aload_n 0, 1) := by decide +kernel
theorem dX12_printWhole_351 : decode cX12_printWhole 351 = .ok (.getfield 113, 3) := by decide +kernel
theorem dX12_printWhole_354 : decode cX12_printWhole 354 = .ok (.iload 10, 2) := by decide +kernel
theorem dX12_printWhole_356 : decode cX12_printWhole 356 = .ok (.if_icmp .le 13, 3) := by decide +kernel
theorem dX12_printWhole_359 : decode cX12_printWhole 359 = .ok (.aload_n 0, 1) := by decide +kernel
theorem dX12_printWhole_360 : decode cX12_printWhole 360 = .ok (.getfield 113, 3) := by decide +kernel
theorem dX12_printWhole_363 : decode cX12_printWhole 363 = .ok (.iload 10, 2) := by decide +kernel
theorem dX12_printWhole_365 : decode cX12_printWhole 365 = .ok (.isub, 1) := by decide +kernel
theorem dX12_printWhole_366 : decode cX12_printWhole 366 = .ok (.goto 4, 3) := by decide +kernel
theorem dX12_printWhole_369 : decode cX12_printWhole 369 = .ok (.iconst 0, 1) := by decide +kernel
theorem dX12_printWhole_370 : decode cX12_printWhole 370 = .ok (.istore 11, 2) := by decide +kernel
theorem dX12_printWhole_372 : decode cX12_printWhole 372 = .ok (.aload_n 0, 1) := by decide +kernel
theorem dX12_printWhole_373 : decode cX12_printWhole 373 = .ok (.getfield 91, 3) := by decide +kernel
theorem dX12_printWhole_376 : decode cX12_printWhole 376 = .ok (.ifCond .ne 21, 3) := by decide +kernel
theorem dX12_printWhole_379 : decode cX12_printWhole 379 = .ok (.aload_n 0, 1) := by decide +kernel
theorem dX12_printWhole_380 : decode cX12_printWhole 380 = .ok (.getfield 103, 3) := by decide +kernel
theorem dX12_printWhole_383 : decode cX12_printWhole 383 = .ok (.ifCond .eq 14, 3) := by decide +kernel
theorem dX12_printWhole_386 : decode cX12_printWhole 386 = .ok (.aload_n 0, 1) := by decide +kernel
theorem dX12_printWhole_387 : decode cX12_printWhole 387 = .ok (.getfield 120, 3) := by decide +kernel
theorem dX12_printWhole_390 : decode cX12_printWhole 390 = .ok (.ifCond .ge 7, 3) := by decide +kernel
theorem dX12_printWhole_393 : decode cX12_printWhole 393 = .ok (.iconst 1, 1) := by decide +kernel
theorem dX12_printWhole_394 : decode cX12_printWhole 394 = .ok (.goto 4, 3) := by decide +kernel
theorem dX12_printWhole_397 : decode cX12_printWhole 397 = .ok (.iconst 0, 1) := by decide +kernel
theorem dX12_printWhole_398 : decode cX12_printWhole 398 = .ok (.istore 12, 2) := by decide +kernel
theorem dX12_printWhole_400 : decode cX12_printWhole 400 = .ok (.aload_n 0, 1) := by decide +kernel
theorem dX12_printWhole_401 : decode cX12_printWhole 401 = .ok (.bipush 32, 2) := by decide +kernel
theorem dX12_printWhole_403 : decode cX12_printWhole 403 = .ok (.aload_n 0, 1) := by decide +kernel
theorem dX12_printWhole_404 : decode cX12_printWhole 404 = .ok (.getfield 91, 3) := by decide +kernel
theorem dX12_printWhole_407 : decode cX12_printWhole 407 = .ok (.ifCond .ne 8, 3) := by decide +kernel
theorem dX12_printWhole_410 : decode cX12_printWhole 410 = .ok (.iload 12, 2) := by decide +kernel
theorem dX12_printWhole_412 : decode cX12_printWhole 412 = .ok (.ifCond .eq 7, 3) := by decide +kernel
theorem dX12_printWhole_415 : decode cX12_printWhole 415 = .ok (.iconst 0, 1) := by decide +kernel
theorem dX12_printWhole_416 : decode cX12_printWhole 416 = .ok (.goto 5, 3) := by decide +kernel
theorem dX12_printWhole_419 : decode cX12_printWhole 419 = .ok (.iload 11, 2) := by decide +kernel
theorem dX12_printWhole_421 : decode cX12_printWhole 421 = .ok (.invokevirtual 181, 3) := by decide +kernel
theorem dX12_printWhole_424 : decode cX12_printWhole 424 = .ok (.iload 8, 2) := by decide +kernel
theorem dX12_printWhole_426 : decode cX12_printWhole 426 = .ok (.ifCond .eq 9, 3) := by decide +kernel
theorem dX12_printWhole_429 : decode cX12_printWhole 429 = .ok (.aload_n 0, 1) := by decide +kernel
theorem dX12_printWhole_430 : decode cX12_printWhole 430 = .ok (.iload 8, 2) := by decide +kernel
theorem dX12_printWhole_432 : decode cX12_printWhole 432 = .ok (.invokevirtual 87, 3) := by decide +kernel
theorem dX12_printWhole_435 : decode cX12_printWhole 435 = .ok (.iload 9, 2) := by decide +kernel
theorem dX12_printWhole_437 : decode cX12_printWhole 437 = .ok (.ifCond .eq 17, 3) := by decide +kernel
theorem dX12_printWhole_440 : decode cX12_printWhole 440 = .ok (.aload_n 0, 1) := by decide +kernel
theorem dX12_printWhole_441 : decode cX12_printWhole 441 = .ok (.bipush 48, 2) := by decide +kernel
theorem dX12_printWhole_443 : decode cX12_printWhole 443 = .ok (.invokevirtual 87, 3) := by decide +kernel
theorem dX12_printWhole_446 : decode cX12_printWhole 446 = .ok (.aload_n 0, 1) := by decide +kernel
theorem dX12_printWhole_447 : decode cX12_printWhole 447 = .ok (.aload_n 0, 1) := by decide +kernel
theorem dX12_printWhole_448 : decode cX12_printWhole 448 = .ok (.getfield 126, 3) := by decide +kernel
theorem dX12_printWhole_451 : decode cX12_printWhole 451 = .ok (.invokevirtual 87, 3) := by decide +kernel
theorem dX12_printWhole_454 : decode cX12_printWhole 454 = .ok (.aload_n 0, 1) := by decide +kernel
theorem dX12_printWhole_455 : decode cX12_printWhole 455 = .ok (.bipush 48, 2) := by decide +kernel
theorem dX12_printWhole_457 : decode cX12_printWhole 457 = .ok (.iload 12, 2) := by decide +kernel
theorem dX12_printWhole_459 : decode cX12_printWhole 459 = .ok (.ifCond .eq 8, 3) := by decide +kernel
theorem dX12_printWhole_462 : decode cX12_printWhole 462 = .ok (.iload 11, 2) := by decide +kernel
theorem dX12_printWhole_464 : decode cX12_printWhole 464 = .ok (.goto 4, 3) := by decide +kernel
theorem dX12_printWhole_467 : decode cX12_printWhole 467 = .ok (.iconst 0, 1) := by decide +kernel
theorem dX12_printWhole_468 : decode cX12_printWhole 468 = .ok (.invokevirtual 181, 3) := by decide +kernel
theorem dX12_printWhole_471 : decode cX12_printWhole 471 = .ok (.aload_n 0, 1) := by decide +kernel
theorem dX12_printWhole_472 : decode cX12_printWhole 472 = .ok (.invokevirtual 185, 3) := by decide +kernel
theorem dX12_printWhole_475 : decode cX12_printWhole 475 = .ok (.aload_n 0, 1) := by decide +kernel
theorem dX12_printWhole_476 : decode cX12_printWhole 476 = .ok (.bipush 32, 2) := by decide +kernel
theorem dX12_printWhole_478 : decode cX12_printWhole 478 = .ok (.aload_n 0, 1) := by decide +kernel
theorem dX12_printWhole_479 : decode cX12_printWhole 479 = .ok (.getfield 91, 3) := by decide +kernel
theorem dX12_printWhole_482 : decode cX12_printWhole 482 = .ok (.ifCond .eq 8, 3) := by decide +kernel
theorem dX12_printWhole_485 : decode cX12_printWhole 485 = .ok (.iload 11, 2) := by decide +kernel
theorem dX12_printWhole_487 : decode cX12_printWhole 487 = .ok (.goto 4, 3) := by decide +kernel
theorem dX12_printWhole_490 : decode cX12_printWhole 490 = .ok (.iconst 0, 1) := by decide +kernel
theorem dX12_printWhole_491 : decode cX12_printWhole 491 = .ok (.invokevirtual 181, 3) := by decide +kernel
theorem dX12_printWhole_494 : decode cX12_printWhole 494 = .ok (.return_, 1) := by decide +kernel
theorem dX12_printRow_0 : decode cX12_printRow 0 = .ok (.aload_n 0, 1) := by decide +kernel
theorem dX12_printRow_1 : decode cX12_printRow 1 = .ok (.getfield 113, 3) := by decide +kernel
theorem dX12_printRow_4 : decode cX12_printRow 4 = .ok (.aload_n 0, 1) := by decide +kernel
theorem dX12_printRow_5 : decode cX12_printRow 5 = .ok (.getfield 163, 3) := by decide +kernel
theorem dX12_printRow_8 : decode cX12_printRow 8 = .ok (.if_icmp .le 15, 3) := by decide +kernel
theorem dX12_printRow_11 : decode cX12_printRow 11 = .ok (.aload_n 0, 1) := by decide +kernel
theorem dX12_printRow_12 : decode cX12_printRow 12 = .ok (.getfield 113, 3) := by decide +kernel
theorem dX12_printRow_15 : decode cX12_printRow 15 = .ok (.aload_n 0, 1) := by decide +kernel
theorem dX12_printRow_16 : decode cX12_printRow 16 = .ok (.getfield 163, 3) := by decide +kernel
theorem dX12_printRow_19 : decode cX12_printRow 19 = .ok (.isub, 1) := by decide +kernel
theorem dX12_printRow_20 : decode cX12_printRow 20 = .ok (.goto 4, 3) := by decide +kernel
theorem dX12_printRow_23 : decode cX12_printRow 23 = .ok (.iconst 0, 1) := by decide +kernel
theorem dX12_printRow_24 : decode cX12_printRow 24 = .ok (.istore_n 1, 1) := by decide +kernel
theorem dX12_printRow_25 : decode cX12_printRow 25 = .ok (.aload_n 0, 1) := by decide +kernel
theorem dX12_printRow_26 : decode cX12_printRow 26 = .ok (.bipush 32, 2) := by decide +kernel
theorem dX12_printRow_28 : decode cX12_printRow 28 = .ok (.aload_n 0, 1) := by decide +kernel
theorem dX12_printRow_29 : decode cX12_printRow 29 = .ok (.getfield 91, 3) := by decide +kernel
theorem dX12_printRow_32 : decode cX12_printRow 32 = .ok (.ifCond .eq 7, 3) := by decide +kernel
theorem dX12_printRow_35 : decode cX12_printRow 35 = .ok (.iconst 0, 1) := by decide +kernel
theorem dX12_printRow_36 : decode cX12_printRow 36 = .ok (.goto 4, 3) := by decide +kernel
theorem dX12_printRow_39 : decode cX12_printRow 39 = .ok (.iload_n 1, 1) := by decide +kernel
theorem dX12_printRow_40 : decode cX12_printRow 40 = .ok (.invokevirtual 181, 3) := by decide +kernel
theorem dX12_printRow_43 : decode cX12_printRow 43 = .ok (.iconst 0, 1) := by decide +kernel
theorem dX12_printRow_44 : decode cX12_printRow 44 = .ok (.istore_n 2, 1) := by decide +kernel
theorem dX12_printRow_45 : decode cX12_printRow 45 = .ok (.iload_n 2, 1) := by decide +kernel
theorem dX12_printRow_46 : decode cX12_printRow 46 = .ok (.aload_n 0, 1) := by decide +kernel
theorem dX12_printRow_47 : decode cX12_printRow 47 = .ok (.getfield 163, 3) := by decide +kernel
theorem dX12_printRow_50 : decode cX12_printRow 50 = .ok (.if_icmp .ge 19, 3) := by decide +kernel
theorem dX12_printRow_53 : decode cX12_printRow 53 = .ok (.aload_n 0, 1) := by decide +kernel
theorem dX12_printRow_54 : decode cX12_printRow 54 = .ok (.aload_n 0, 1) := by decide +kernel
theorem dX12_printRow_55 : decode cX12_printRow 55 = .ok (.getfield 41, 3) := by decide +kernel
theorem dX12_printRow_58 : decode cX12_printRow 58 = .ok (.iload_n 2, 1) := by decide +kernel
