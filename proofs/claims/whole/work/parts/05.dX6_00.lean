theorem dX6_init_0 : decode cX6_init 0 = .ok (.aload_n 0, 1) := by decide +kernel
theorem dX6_init_1 : decode cX6_init 1 = .ok (.invokespecial 3, 3) := by decide +kernel
theorem dX6_init_4 : decode cX6_init 4 = .ok (.aload_n 0, 1) := by decide +kernel
theorem dX6_init_5 : decode cX6_init 5 = .ok (.aload_n 1, 1) := by decide +kernel
theorem dX6_init_6 : decode cX6_init 6 = .ok (.putfield 9, 3) := by decide +kernel
theorem dX6_init_9 : decode cX6_init 9 = .ok (.aload_n 0, 1) := by decide +kernel
theorem dX6_init_10 : decode cX6_init 10 = .ok (.aload_n 2, 1) := by decide +kernel
theorem dX6_init_11 : decode cX6_init 11 = .ok (.putfield 15, 3) := by decide +kernel
theorem dX6_init_14 : decode cX6_init 14 = .ok (.aload_n 0, 1) := by decide +kernel
theorem dX6_init_15 : decode cX6_init 15 = .ok (.aload_n 3, 1) := by decide +kernel
theorem dX6_init_16 : decode cX6_init 16 = .ok (.putfield 18, 3) := by decide +kernel
theorem dX6_init_19 : decode cX6_init 19 = .ok (.return_, 1) := by decide +kernel
theorem dX6_dump_0 : decode cX6_dump 0 = .ok (.iload_n 1, 1) := by decide +kernel
theorem dX6_dump_1 : decode cX6_dump 1 = .ok (.iload_n 2, 1) := by decide +kernel
theorem dX6_dump_2 : decode cX6_dump 2 = .ok (.invokestatic 22, 3) := by decide +kernel
theorem dX6_dump_5 : decode cX6_dump 5 = .ok (.istore 4, 2) := by decide +kernel
theorem dX6_dump_7 : decode cX6_dump 7 = .ok (.iconst 1, 1) := by decide +kernel
theorem dX6_dump_8 : decode cX6_dump 8 = .ok (.iload_n 1, 1) := by decide +kernel
theorem dX6_dump_9 : decode cX6_dump 9 = .ok (.invokestatic 26, 3) := by decide +kernel
theorem dX6_dump_12 : decode cX6_dump 12 = .ok (.istore 5, 2) := by decide +kernel
theorem dX6_dump_14 : decode cX6_dump 14 = .ok (.iconst 0, 1) := by decide +kernel
theorem dX6_dump_15 : decode cX6_dump 15 = .ok (.istore 6, 2) := by decide +kernel
theorem dX6_dump_17 : decode cX6_dump 17 = .ok (.iload 6, 2) := by decide +kernel
theorem dX6_dump_19 : decode cX6_dump 19 = .ok (.aload_n 0, 1) := by decide +kernel
theorem dX6_dump_20 : decode cX6_dump 20 = .ok (.getfield 15, 3) := by decide +kernel
theorem dX6_dump_23 : decode cX6_dump 23 = .ok (.invokevirtual 31, 3) := by decide +kernel
theorem dX6_dump_26 : decode cX6_dump 26 = .ok (.if_icmp .ge 178, 3) := by decide +kernel
theorem dX6_dump_29 : decode cX6_dump 29 = .ok (.iload 5, 2) := by decide +kernel
theorem dX6_dump_31 : decode cX6_dump 31 = .ok (.aload_n 0, 1) := by decide +kernel
theorem dX6_dump_32 : decode cX6_dump 32 = .ok (.getfield 15, 3) := by decide +kernel
theorem dX6_dump_35 : decode cX6_dump 35 = .ok (.invokevirtual 31, 3) := by decide +kernel
theorem dX6_dump_38 : decode cX6_dump 38 = .ok (.iload 6, 2) := by decide +kernel
theorem dX6_dump_40 : decode cX6_dump 40 = .ok (.isub, 1) := by decide +kernel
theorem dX6_dump_41 : decode cX6_dump 41 = .ok (.invokestatic 37, 3) := by decide +kernel
theorem dX6_dump_44 : decode cX6_dump 44 = .ok (.istore 7, 2) := by decide +kernel
theorem dX6_dump_46 : decode cX6_dump 46 = .ok (.aload_n 0, 1) := by decide +kernel
theorem dX6_dump_47 : decode cX6_dump 47 = .ok (.iload 6, 2) := by decide +kernel
theorem dX6_dump_49 : decode cX6_dump 49 = .ok (.bipush 8, 2) := by decide +kernel
theorem dX6_dump_51 : decode cX6_dump 51 = .ok (.iload_n 3, 1) := by decide +kernel
theorem dX6_dump_52 : decode cX6_dump 52 = .ok (.invokevirtual 40, 3) := by decide +kernel
theorem dX6_dump_55 : decode cX6_dump 55 = .ok (.aload_n 0, 1) := by decide +kernel
theorem dX6_dump_56 : decode cX6_dump 56 = .ok (.getfield 9, 3) := by decide +kernel
theorem dX6_dump_59 : decode cX6_dump 59 = .ok (.bipush 58, 2) := by decide +kernel
theorem dX6_dump_61 : decode cX6_dump 61 = .ok (.invokevirtual 44, 3) := by decide +kernel
theorem dX6_dump_64 : decode cX6_dump 64 = .ok (.aload_n 0, 1) := by decide +kernel
theorem dX6_dump_65 : decode cX6_dump 65 = .ok (.getfield 9, 3) := by decide +kernel
theorem dX6_dump_68 : decode cX6_dump 68 = .ok (.bipush 32, 2) := by decide +kernel
theorem dX6_dump_70 : decode cX6_dump 70 = .ok (.invokevirtual 44, 3) := by decide +kernel
theorem dX6_dump_73 : decode cX6_dump 73 = .ok (.iconst 0, 1) := by decide +kernel
theorem dX6_dump_74 : decode cX6_dump 74 = .ok (.istore 8, 2) := by decide +kernel
theorem dX6_dump_76 : decode cX6_dump 76 = .ok (.iload 8, 2) := by decide +kernel
theorem dX6_dump_78 : decode cX6_dump 78 = .ok (.iload 7, 2) := by decide +kernel
theorem dX6_dump_80 : decode cX6_dump 80 = .ok (.if_icmp .ge 47, 3) := by decide +kernel
theorem dX6_dump_83 : decode cX6_dump 83 = .ok (.aload_n 0, 1) := by decide +kernel
theorem dX6_dump_84 : decode cX6_dump 84 = .ok (.aload_n 0, 1) := by decide +kernel
theorem dX6_dump_85 : decode cX6_dump 85 = .ok (.getfield 15, 3) := by decide +kernel
theorem dX6_dump_88 : decode cX6_dump 88 = .ok (.iload 6, 2) := by decide +kernel
theorem dX6_dump_90 : decode cX6_dump 90 = .ok (.iload 8, 2) := by decide +kernel
theorem dX6_dump_92 : decode cX6_dump 92 = .ok (.iadd, 1) := by decide +kernel
theorem dX6_dump_93 : decode cX6_dump 93 = .ok (.invokevirtual 48, 3) := by decide +kernel
theorem dX6_dump_96 : decode cX6_dump 96 = .ok (.iconst 2, 1) := by decide +kernel
theorem dX6_dump_97 : decode cX6_dump 97 = .ok (.iload_n 3, 1) := by decide +kernel
theorem dX6_dump_98 : decode cX6_dump 98 = .ok (.invokevirtual 40, 3) := by decide +kernel
theorem dX6_dump_101 : decode cX6_dump 101 = .ok (.iload 8, 2) := by decide +kernel
theorem dX6_dump_103 : decode cX6_dump 103 = .ok (.iload 7, 2) := by decide +kernel
theorem dX6_dump_105 : decode cX6_dump 105 = .ok (.iload_n 2, 1) := by decide +kernel
theorem dX6_dump_106 : decode cX6_dump 106 = .ok (.invokestatic 52, 3) := by decide +kernel
theorem dX6_dump_109 : decode cX6_dump 109 = .ok (.ifCond .eq 12, 3) := by decide +kernel
theorem dX6_dump_112 : decode cX6_dump 112 = .ok (.aload_n 0, 1) := by decide +kernel
theorem dX6_dump_113 : decode cX6_dump 113 = .ok (.getfield 9, 3) := by decide +kernel
theorem dX6_dump_116 : decode cX6_dump 116 = .ok (.bipush 32, 2) := by decide +kernel
theorem dX6_dump_118 : decode cX6_dump 118 = .ok (.invokevirtual 44, 3) := by decide +kernel
theorem dX6_dump_121 : decode cX6_dump 121 = .ok (.iinc 8 1, 3) := by decide +kernel
theorem dX6_dump_124 : decode cX6_dump 124 = .ok (.goto (-48), 3) := by decide +kernel
theorem dX6_dump_127 : decode cX6_dump 127 = .ok (.aload_n 0, 1) := by decide +kernel
theorem dX6_dump_128 : decode cX6_dump 128 = .ok (.getfield 9, 3) := by decide +kernel
theorem dX6_dump_131 : decode cX6_dump 131 = .ok (.bipush 32, 2) := by decide +kernel
theorem dX6_dump_133 : decode cX6_dump 133 = .ok (.iload 4, 2) := by decide +kernel
theorem dX6_dump_135 : decode cX6_dump 135 = .ok (.iload 7, 2) := by decide +kernel
theorem dX6_dump_137 : decode cX6_dump 137 = .ok (.iload_n 2, 1) := by decide +kernel
theorem dX6_dump_138 : decode cX6_dump 138 = .ok (.invokestatic 22, 3) := by decide +kernel
theorem dX6_dump_141 : decode cX6_dump 141 = .ok (.isub, 1) := by decide +kernel
theorem dX6_dump_142 : decode cX6_dump 142 = .ok (.iconst 1, 1) := by decide +kernel
theorem dX6_dump_143 : decode cX6_dump 143 = .ok (.iadd, 1) := by decide +kernel
theorem dX6_dump_144 : decode cX6_dump 144 = .ok (.invokevirtual 56, 3) := by decide +kernel
theorem dX6_dump_147 : decode cX6_dump 147 = .ok (.iconst 0, 1) := by decide +kernel
theorem dX6_dump_148 : decode cX6_dump 148 = .ok (.istore 8, 2) := by decide +kernel
theorem dX6_dump_150 : decode cX6_dump 150 = .ok (.iload 8, 2) := by decide +kernel
theorem dX6_dump_152 : decode cX6_dump 152 = .ok (.iload 7, 2) := by decide +kernel
theorem dX6_dump_154 : decode cX6_dump 154 = .ok (.if_icmp .ge 31, 3) := by decide +kernel
theorem dX6_dump_157 : decode cX6_dump 157 = .ok (.aload_n 0, 1) := by decide +kernel
theorem dX6_dump_158 : decode cX6_dump 158 = .ok (.getfield 9, 3) := by decide +kernel
theorem dX6_dump_161 : decode cX6_dump 161 = .ok (.aload_n 0, 1) := by decide +kernel
theorem dX6_dump_162 : decode cX6_dump 162 = .ok (.getfield 15, 3) := by decide +kernel
theorem dX6_dump_165 : decode cX6_dump 165 = .ok (.iload 6, 2) := by decide +kernel
theorem dX6_dump_167 : decode cX6_dump 167 = .ok (.iload 8, 2) := by decide +kernel
theorem dX6_dump_169 : decode cX6_dump 169 = .ok (.iadd, 1) := by decide +kernel
theorem dX6_dump_170 : decode cX6_dump 170 = .ok (.invokevirtual 48, 3) := by decide +kernel
theorem dX6_dump_173 : decode cX6_dump 173 = .ok (.invokestatic 60, 3) := by decide +kernel
theorem dX6_dump_176 : decode cX6_dump 176 = .ok (.invokevirtual 44, 3) := by decide +kernel
theorem dX6_dump_179 : decode cX6_dump 179 = .ok (.iinc 8 1, 3) := by decide +kernel
theorem dX6_dump_182 : decode cX6_dump 182 = .ok (.goto (-32), 3) := by decide +kernel
theorem dX6_dump_185 : decode cX6_dump 185 = .ok (.aload_n 0, 1) := by decide +kernel
theorem dX6_dump_186 : decode cX6_dump 186 = .ok (.getfield 9, 3) := by decide +kernel
theorem dX6_dump_189 : decode cX6_dump 189 = .ok (.bipush 10, 2) := by decide +kernel
theorem dX6_dump_191 : decode cX6_dump 191 = .ok (.invokevirtual 44, 3) := by decide +kernel
theorem dX6_dump_194 : decode cX6_dump 194 = .ok (.iload 6, 2) := by decide +kernel
theorem dX6_dump_196 : decode cX6_dump 196 = .ok (.iload 5, 2) := by decide +kernel
theorem dX6_dump_198 : decode cX6_dump 198 = .ok (.iadd, 1) := by decide +kernel
theorem dX6_dump_199 : decode cX6_dump 199 = .ok (.istore 6, 2) := by decide +kernel
theorem dX6_dump_201 : decode cX6_dump 201 = .ok (.goto (-184), 3) := by decide +kernel
theorem dX6_dump_204 : decode cX6_dump 204 = .ok (.return_, 1) := by decide +kernel
theorem dX6_writeDigits_0 : decode cX6_writeDigits 0 = .ok (.aload_n 0, 1) := by decide +kernel
theorem dX6_writeDigits_1 : decode cX6_writeDigits 1 = .ok (.getfield 18, 3) := by decide +kernel
theorem dX6_writeDigits_4 : decode cX6_writeDigits 4 = .ok (.iload_n 1, 1) := by decide +kernel
theorem dX6_writeDigits_5 : decode cX6_writeDigits 5 = .ok (.i2l, 1) := by decide +kernel
theorem dX6_writeDigits_6 : decode cX6_writeDigits 6 = .ok (.bipush 16, 2) := by decide +kernel
theorem dX6_writeDigits_8 : decode cX6_writeDigits 8 = .ok (.iload_n 3, 1) := by decide +kernel
theorem dX6_writeDigits_9 : decode cX6_writeDigits 9 = .ok (.invokevirtual 63, 3) := by decide +kernel
theorem dX6_writeDigits_12 : decode cX6_writeDigits 12 = .ok (.aload_n 0, 1) := by decide +kernel
theorem dX6_writeDigits_13 : decode cX6_writeDigits 13 = .ok (.getfield 18, 3) := by decide +kernel
theorem dX6_writeDigits_16 : decode cX6_writeDigits 16 = .ok (.aload_n 0, 1) := by decide +kernel
theorem dX6_writeDigits_17 : decode cX6_writeDigits 17 = .ok (.getfield 9, 3) := by decide +kernel
theorem dX6_writeDigits_20 : decode cX6_writeDigits 20 = .ok (.iload_n 2, 1) := by decide +kernel
theorem dX6_writeDigits_21 : decode cX6_writeDigits 21 = .ok (.invokevirtual 69, 3) := by decide +kernel
theorem dX6_writeDigits_24 : decode cX6_writeDigits 24 = .ok (.return_, 1) := by decide +kernel
